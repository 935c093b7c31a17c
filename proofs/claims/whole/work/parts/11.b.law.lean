abbrev b_L_law : ByteArray := code
def tb_L_law : List (Nat × Instr × Nat) := [(0, .new 8, 3), (3, .dup, 1), (4, .aload_n 0, 1), (5, .iconst 0, 1), (6, .invokestatic 56, 3), (9, .invokespecial 62, 3), (12, .astore_n 1, 1), (13, .new 65, 3), (16, .dup, 1), (17, .aload_n 0, 1), (18, .iconst 0, 1), (19, .invokestatic 56, 3), (22, .invokespecial 67, 3), (25, .astore_n 2, 1), (26, .iconst 1, 1), (27, .newarray .long, 2), (29, .astore_n 3, 1), (30, .iconst 1, 1), (31, .istore 4, 2), (33, .iload 4, 2), (35, .aload_n 0, 1), (36, .arraylength, 1), (37, .bipush 6, 2), (39, .isub, 1), (40, .if_icmp .gt 940, 3), (43, .aload_n 0, 1), (44, .iload 4, 2), (46, .iaload, 1), (47, .bipush 15, 2), (49, .iand, 1), (50, .tableswitch 924 0 15 #[78, 158, 207, 275, 343, 399, 455, 499, 512, 580, 648, 691, 795, 875, 888, 913], 78), (128, .aload_n 1, 1), (129, .aload_n 0, 1), (130, .iload 4, 2), (132, .iconst 1, 1), (133, .iadd, 1), (134, .iaload, 1), (135, .aload_n 0, 1), (136, .iload 4, 2), (138, .iconst 2, 1), (139, .iadd, 1), (140, .iaload, 1), (141, .aload_n 0, 1), (142, .iload 4, 2), (144, .iconst 3, 1), (145, .iadd, 1), (146, .iaload, 1), (147, .aload_n 3, 1), (148, .invokestatic 68, 3), (151, .istore 5, 2), (153, .aload_n 2, 1), (154, .aload_n 0, 1), (155, .iload 4, 2), (157, .iconst 1, 1), (158, .iadd, 1), (159, .iaload, 1), (160, .aload_n 0, 1), (161, .iload 4, 2), (163, .iconst 2, 1), (164, .iadd, 1), (165, .iaload, 1), (166, .aload_n 0, 1), (167, .iload 4, 2), (169, .iconst 3, 1), (170, .iadd, 1), (171, .iaload, 1), (172, .invokevirtual 71, 3), (175, .istore 6, 2), (177, .aload_n 2, 1), (178, .invokevirtual 72, 3), (181, .iload 5, 2), (183, .if_icmp .eq 5, 3), (186, .iconst 0, 1), (187, .ireturn, 1), (188, .iload 5, 2), (190, .ifCond .ne 15, 3), (193, .aload_n 3, 1), (194, .iconst 0, 1), (195, .laload, 1), (196, .iload 6, 2), (198, .i2l, 1), (199, .lcmp, 1), (200, .ifCond .eq 5, 3), (203, .iconst 0, 1), (204, .ireturn, 1), (205, .goto 769, 3), (208, .aload_n 1, 1), (209, .aload_n 0, 1), (210, .iload 4, 2), (212, .iconst 1, 1), (213, .iadd, 1), (214, .iaload, 1), (215, .aload_n 0, 1), (216, .iload 4, 2), (218, .iconst 2, 1), (219, .iadd, 1), (220, .iaload, 1), (221, .aload_n 0, 1), (222, .iload 4, 2), (224, .iconst 3, 1), (225, .iadd, 1), (226, .iaload, 1), (227, .invokevirtual 75, 3), (230, .aload_n 2, 1), (231, .aload_n 0, 1), (232, .iload 4, 2), (234, .iconst 1, 1), (235, .iadd, 1), (236, .iaload, 1), (237, .aload_n 0, 1), (238, .iload 4, 2), (240, .iconst 2, 1), (241, .iadd, 1), (242, .iaload, 1), (243, .aload_n 0, 1), (244, .iload 4, 2), (246, .iconst 3, 1), (247, .iadd, 1), (248, .iaload, 1), (249, .invokevirtual 78, 3), (252, .if_icmp .eq 722, 3), (255, .iconst 0, 1), (256, .ireturn, 1), (257, .aload_n 1, 1), (258, .aload_n 0, 1), (259, .iload 4, 2), (261, .iconst 1, 1), (262, .iadd, 1), (263, .iaload, 1), (264, .aload_n 0, 1), (265, .iload 4, 2), (267, .iconst 2, 1), (268, .iadd, 1), (269, .iaload, 1), (270, .aload_n 3, 1), (271, .invokestatic 79, 3), (274, .istore 5, 2), (276, .aload_n 2, 1), (277, .aload_n 0, 1), (278, .iload 4, 2), (280, .iconst 1, 1), (281, .iadd, 1), (282, .iaload, 1), (283, .aload_n 0, 1), (284, .iload 4, 2), (286, .iconst 2, 1), (287, .iadd, 1), (288, .iaload, 1), (289, .invokevirtual 82, 3), (292, .istore 6, 2), (294, .aload_n 2, 1), (295, .invokevirtual 72, 3), (298, .iload 5, 2), (300, .if_icmp .eq 5, 3), (303, .iconst 0, 1), (304, .ireturn, 1), (305, .iload 5, 2), (307, .ifCond .ne 15, 3), (310, .aload_n 3, 1), (311, .iconst 0, 1), (312, .laload, 1), (313, .iload 6, 2), (315, .i2l, 1), (316, .lcmp, 1), (317, .ifCond .eq 5, 3), (320, .iconst 0, 1), (321, .ireturn, 1), (322, .goto 652, 3), (325, .aload_n 1, 1), (326, .aload_n 0, 1), (327, .iload 4, 2), (329, .iconst 1, 1), (330, .iadd, 1), (331, .iaload, 1), (332, .aload_n 0, 1), (333, .iload 4, 2), (335, .iconst 2, 1), (336, .iadd, 1), (337, .iaload, 1), (338, .aload_n 3, 1), (339, .invokestatic 83, 3), (342, .istore 5, 2), (344, .aload_n 2, 1), (345, .aload_n 0, 1), (346, .iload 4, 2), (348, .iconst 1, 1), (349, .iadd, 1), (350, .iaload, 1), (351, .aload_n 0, 1), (352, .iload 4, 2), (354, .iconst 2, 1), (355, .iadd, 1), (356, .iaload, 1), (357, .invokevirtual 85, 3), (360, .istore 6, 2), (362, .aload_n 2, 1), (363, .invokevirtual 72, 3), (366, .iload 5, 2), (368, .if_icmp .eq 5, 3), (371, .iconst 0, 1), (372, .ireturn, 1), (373, .iload 5, 2), (375, .ifCond .ne 15, 3), (378, .aload_n 3, 1), (379, .iconst 0, 1), (380, .laload, 1), (381, .iload 6, 2), (383, .i2l, 1), (384, .lcmp, 1), (385, .ifCond .eq 5, 3), (388, .iconst 0, 1), (389, .ireturn, 1), (390, .goto 584, 3), (393, .aload_n 1, 1), (394, .aload_n 0, 1), (395, .iload 4, 2), (397, .iconst 1, 1), (398, .iadd, 1), (399, .iaload, 1), (400, .aload_n 3, 1), (401, .invokestatic 86, 3), (404, .istore 5, 2), (406, .aload_n 2, 1), (407, .aload_n 0, 1), (408, .iload 4, 2), (410, .iconst 1, 1), (411, .iadd, 1), (412, .iaload, 1), (413, .invokevirtual 89, 3), (416, .istore 6, 2), (418, .aload_n 2, 1), (419, .invokevirtual 72, 3), (422, .iload 5, 2), (424, .if_icmp .eq 5, 3), (427, .iconst 0, 1), (428, .ireturn, 1), (429, .iload 5, 2), (431, .ifCond .ne 15, 3), (434, .aload_n 3, 1), (435, .iconst 0, 1), (436, .laload, 1), (437, .iload 6, 2), (439, .i2l, 1), (440, .lcmp, 1), (441, .ifCond .eq 5, 3), (444, .iconst 0, 1), (445, .ireturn, 1), (446, .goto 528, 3), (449, .aload_n 1, 1), (450, .aload_n 0, 1), (451, .iload 4, 2), (453, .iconst 1, 1), (454, .iadd, 1), (455, .iaload, 1), (456, .aload_n 3, 1), (457, .invokestatic 90, 3), (460, .istore 5, 2), (462, .aload_n 2, 1), (463, .aload_n 0, 1), (464, .iload 4, 2), (466, .iconst 1, 1), (467, .iadd, 1), (468, .iaload, 1), (469, .invokevirtual 92, 3), (472, .istore 6, 2), (474, .aload_n 2, 1), (475, .invokevirtual 72, 3), (478, .iload 5, 2), (480, .if_icmp .eq 5, 3), (483, .iconst 0, 1), (484, .ireturn, 1), (485, .iload 5, 2), (487, .ifCond .ne 15, 3), (490, .aload_n 3, 1), (491, .iconst 0, 1), (492, .laload, 1), (493, .iload 6, 2), (495, .i2l, 1), (496, .lcmp, 1), (497, .ifCond .eq 5, 3), (500, .iconst 0, 1), (501, .ireturn, 1), (502, .goto 472, 3), (505, .aload_n 1, 1), (506, .aload_n 3, 1), (507, .invokestatic 93, 3), (510, .istore 5, 2), (512, .aload_n 2, 1), (513, .invokevirtual 96, 3), (516, .istore 6, 2), (518, .aload_n 2, 1), (519, .invokevirtual 72, 3), (522, .iload 5, 2), (524, .if_icmp .eq 5, 3), (527, .iconst 0, 1), (528, .ireturn, 1), (529, .iload 5, 2), (531, .ifCond .ne 15, 3), (534, .aload_n 3, 1), (535, .iconst 0, 1), (536, .laload, 1), (537, .iload 6, 2), (539, .i2l, 1), (540, .lcmp, 1), (541, .ifCond .eq 5, 3), (544, .iconst 0, 1), (545, .ireturn, 1), (546, .goto 428, 3), (549, .aload_n 1, 1), (550, .invokevirtual 97, 3), (553, .aload_n 2, 1), (554, .invokevirtual 100, 3), (557, .if_icmp .eq 417, 3), (560, .iconst 0, 1), (561, .ireturn, 1), (562, .aload_n 1, 1), (563, .aload_n 0, 1), (564, .iload 4, 2), (566, .iconst 1, 1), (567, .iadd, 1), (568, .iaload, 1), (569, .aload_n 0, 1), (570, .iload 4, 2), (572, .iconst 2, 1), (573, .iadd, 1), (574, .iaload, 1), (575, .aload_n 3, 1), (576, .invokestatic 101, 3), (579, .istore 5, 2), (581, .aload_n 2, 1), (582, .aload_n 0, 1), (583, .iload 4, 2), (585, .iconst 1, 1), (586, .iadd, 1), (587, .iaload, 1), (588, .aload_n 0, 1), (589, .iload 4, 2), (591, .iconst 2, 1), (592, .iadd, 1), (593, .iaload, 1), (594, .invokevirtual 103, 3), (597, .istore 6, 2), (599, .aload_n 2, 1), (600, .invokevirtual 72, 3), (603, .iload 5, 2), (605, .if_icmp .eq 5, 3), (608, .iconst 0, 1), (609, .ireturn, 1), (610, .iload 5, 2), (612, .ifCond .ne 15, 3), (615, .aload_n 3, 1), (616, .iconst 0, 1), (617, .laload, 1), (618, .iload 6, 2), (620, .i2l, 1), (621, .lcmp, 1), (622, .ifCond .eq 5, 3), (625, .iconst 0, 1), (626, .ireturn, 1), (627, .goto 347, 3), (630, .aload_n 1, 1), (631, .aload_n 0, 1), (632, .iload 4, 2), (634, .iconst 1, 1), (635, .iadd, 1), (636, .iaload, 1), (637, .aload_n 0, 1), (638, .iload 4, 2), (640, .iconst 2, 1), (641, .iadd, 1), (642, .iaload, 1), (643, .aload_n 3, 1), (644, .invokestatic 104, 3), (647, .istore 5, 2), (649, .aload_n 2, 1), (650, .aload_n 0, 1), (651, .iload 4, 2), (653, .iconst 1, 1), (654, .iadd, 1), (655, .iaload, 1), (656, .aload_n 0, 1), (657, .iload 4, 2), (659, .iconst 2, 1), (660, .iadd, 1), (661, .iaload, 1), (662, .invokevirtual 106, 3), (665, .istore 6, 2), (667, .aload_n 2, 1), (668, .invokevirtual 72, 3), (671, .iload 5, 2), (673, .if_icmp .eq 5, 3), (676, .iconst 0, 1), (677, .ireturn, 1), (678, .iload 5, 2), (680, .ifCond .ne 15, 3), (683, .aload_n 3, 1), (684, .iconst 0, 1), (685, .laload, 1), (686, .iload 6, 2), (688, .i2l, 1), (689, .lcmp, 1), (690, .ifCond .eq 5, 3), (693, .iconst 0, 1), (694, .ireturn, 1), (695, .goto 279, 3), (698, .aload_n 1, 1), (699, .aload_n 3, 1), (700, .invokestatic 107, 3), (703, .istore 5, 2), (705, .aload_n 2, 1), (706, .invokevirtual 109, 3), (709, .lstore 6, 2), (711, .aload_n 2, 1), (712, .invokevirtual 72, 3), (715, .iload 5, 2), (717, .if_icmp .eq 5, 3), (720, .iconst 0, 1), (721, .ireturn, 1), (722, .iload 5, 2), (724, .ifCond .ne 14, 3), (727, .aload_n 3, 1), (728, .iconst 0, 1), (729, .laload, 1), (730, .lload 6, 2), (732, .lcmp, 1), (733, .ifCond .eq 5, 3), (736, .iconst 0, 1), (737, .ireturn, 1), (738, .goto 236, 3), (741, .aload_n 1, 1), (742, .aload_n 0, 1), (743, .iload 4, 2), (745, .iconst 1, 1), (746, .iadd, 1), (747, .iaload, 1), (748, .aload_n 0, 1), (749, .iload 4, 2), (751, .iconst 2, 1), (752, .iadd, 1), (753, .iaload, 1), (754, .aload_n 0, 1), (755, .iload 4, 2), (757, .iconst 3, 1), (758, .iadd, 1), (759, .iaload, 1), (760, .aload_n 0, 1), (761, .iload 4, 2), (763, .iconst 4, 1), (764, .iadd, 1), (765, .iaload, 1), (766, .aload_n 0, 1), (767, .iload 4, 2), (769, .iconst 5, 1), (770, .iadd, 1), (771, .iaload, 1), (772, .aload_n 3, 1), (773, .invokestatic 110, 3), (776, .istore 5, 2), (778, .aload_n 2, 1), (779, .aload_n 0, 1), (780, .iload 4, 2), (782, .iconst 1, 1), (783, .iadd, 1), (784, .iaload, 1), (785, .aload_n 0, 1), (786, .iload 4, 2), (788, .iconst 2, 1), (789, .iadd, 1), (790, .iaload, 1), (791, .aload_n 0, 1), (792, .iload 4, 2), (794, .iconst 3, 1), (795, .iadd, 1), (796, .iaload, 1), (797, .aload_n 0, 1), (798, .iload 4, 2), (800, .iconst 4, 1), (801, .iadd, 1), (802, .iaload, 1), (803, .aload_n 0, 1), (804, .iload 4, 2), (806, .iconst 5, 1), (807, .iadd, 1), (808, .iaload, 1), (809, .invokevirtual 113, 3), (812, .istore 6, 2), (814, .aload_n 2, 1), (815, .invokevirtual 72, 3), (818, .iload 5, 2), (820, .if_icmp .eq 5, 3), (823, .iconst 0, 1), (824, .ireturn, 1), (825, .iload 5, 2), (827, .ifCond .ne 15, 3), (830, .aload_n 3, 1), (831, .iconst 0, 1), (832, .laload, 1), (833, .iload 6, 2), (835, .i2l, 1), (836, .lcmp, 1), (837, .ifCond .eq 5, 3), (840, .iconst 0, 1), (841, .ireturn, 1), (842, .goto 132, 3), (845, .aload_n 1, 1), (846, .aload_n 0, 1), (847, .iload 4, 2), (849, .iconst 1, 1), (850, .iadd, 1), (851, .iaload, 1), (852, .aload_n 0, 1), (853, .iload 4, 2), (855, .iconst 2, 1), (856, .iadd, 1), (857, .iaload, 1), (858, .aload_n 0, 1), (859, .iload 4, 2), (861, .iconst 3, 1), (862, .iadd, 1), (863, .iaload, 1), (864, .aload_n 3, 1), (865, .invokestatic 114, 3), (868, .istore 5, 2), (870, .aload_n 2, 1), (871, .aload_n 0, 1), (872, .iload 4, 2), (874, .iconst 1, 1), (875, .iadd, 1), (876, .iaload, 1), (877, .aload_n 0, 1), (878, .iload 4, 2), (880, .iconst 2, 1), (881, .iadd, 1), (882, .iaload, 1), (883, .aload_n 0, 1), (884, .iload 4, 2), (886, .iconst 3, 1), (887, .iadd, 1), (888, .iaload, 1), (889, .invokevirtual 116, 3), (892, .istore 6, 2), (894, .aload_n 2, 1), (895, .invokevirtual 72, 3), (898, .iload 5, 2), (900, .if_icmp .eq 5, 3), (903, .iconst 0, 1), (904, .ireturn, 1), (905, .iload 5, 2), (907, .ifCond .ne 15, 3), (910, .aload_n 3, 1), (911, .iconst 0, 1), (912, .laload, 1), (913, .iload 6, 2), (915, .i2l, 1), (916, .lcmp, 1), (917, .ifCond .eq 5, 3), (920, .iconst 0, 1), (921, .ireturn, 1), (922, .goto 52, 3), (925, .aload_n 1, 1), (926, .invokevirtual 117, 3), (929, .aload_n 2, 1), (930, .invokevirtual 120, 3), (933, .if_icmp .eq 41, 3), (936, .iconst 0, 1), (937, .ireturn, 1), (938, .aload_n 1, 1), (939, .aload_n 0, 1), (940, .iload 4, 2), (942, .iconst 1, 1), (943, .iadd, 1), (944, .iaload, 1), (945, .invokevirtual 121, 3), (948, .aload_n 2, 1), (949, .aload_n 0, 1), (950, .iload 4, 2), (952, .iconst 1, 1), (953, .iadd, 1), (954, .iaload, 1), (955, .invokevirtual 124, 3), (958, .if_icmp .eq 16, 3), (961, .iconst 0, 1), (962, .ireturn, 1), (963, .aload_n 1, 1), (964, .invokevirtual 125, 3), (967, .aload_n 2, 1), (968, .invokevirtual 128, 3), (971, .goto 3, 3), (974, .iinc 4 6, 3), (977, .goto (-944), 3), (980, .iconst 1, 1), (981, .ireturn, 1)]
theorem dd_L_law : ∀ (i : Nat) (q : Nat × Instr × Nat), tb_L_law[i]? = some q → decode b_L_law q.1 = .ok (q.2.1, q.2.2) := z_tab (by decide +kernel)
theorem d_L_law_0 : decode b_L_law 0 = .ok (.new 8, 3) := dd_L_law 0 (0, .new 8, 3) rfl
theorem d_L_law_3 : decode b_L_law 3 = .ok (.dup, 1) := dd_L_law 1 (3, .dup, 1) rfl
theorem d_L_law_4 : decode b_L_law 4 = .ok (.aload_n 0, 1) := dd_L_law 2 (4, .aload_n 0, 1) rfl
theorem d_L_law_5 : decode b_L_law 5 = .ok (.iconst 0, 1) := dd_L_law 3 (5, .iconst 0, 1) rfl
theorem d_L_law_6 : decode b_L_law 6 = .ok (.invokestatic 56, 3) := dd_L_law 4 (6, .invokestatic 56, 3) rfl
theorem d_L_law_9 : decode b_L_law 9 = .ok (.invokespecial 62, 3) := dd_L_law 5 (9, .invokespecial 62, 3) rfl
theorem d_L_law_12 : decode b_L_law 12 = .ok (.astore_n 1, 1) := dd_L_law 6 (12, .astore_n 1, 1) rfl
theorem d_L_law_13 : decode b_L_law 13 = .ok (.new 65, 3) := dd_L_law 7 (13, .new 65, 3) rfl
theorem d_L_law_16 : decode b_L_law 16 = .ok (.dup, 1) := dd_L_law 8 (16, .dup, 1) rfl
theorem d_L_law_17 : decode b_L_law 17 = .ok (.aload_n 0, 1) := dd_L_law 9 (17, .aload_n 0, 1) rfl
theorem d_L_law_18 : decode b_L_law 18 = .ok (.iconst 0, 1) := dd_L_law 10 (18, .iconst 0, 1) rfl
theorem d_L_law_19 : decode b_L_law 19 = .ok (.invokestatic 56, 3) := dd_L_law 11 (19, .invokestatic 56, 3) rfl
theorem d_L_law_22 : decode b_L_law 22 = .ok (.invokespecial 67, 3) := dd_L_law 12 (22, .invokespecial 67, 3) rfl
theorem d_L_law_25 : decode b_L_law 25 = .ok (.astore_n 2, 1) := dd_L_law 13 (25, .astore_n 2, 1) rfl
theorem d_L_law_26 : decode b_L_law 26 = .ok (.iconst 1, 1) := dd_L_law 14 (26, .iconst 1, 1) rfl
theorem d_L_law_27 : decode b_L_law 27 = .ok (.newarray .long, 2) := dd_L_law 15 (27, .newarray .long, 2) rfl
theorem d_L_law_29 : decode b_L_law 29 = .ok (.astore_n 3, 1) := dd_L_law 16 (29, .astore_n 3, 1) rfl
theorem d_L_law_30 : decode b_L_law 30 = .ok (.iconst 1, 1) := dd_L_law 17 (30, .iconst 1, 1) rfl
theorem d_L_law_31 : decode b_L_law 31 = .ok (.istore 4, 2) := dd_L_law 18 (31, .istore 4, 2) rfl
theorem d_L_law_33 : decode b_L_law 33 = .ok (.iload 4, 2) := dd_L_law 19 (33, .iload 4, 2) rfl
theorem d_L_law_35 : decode b_L_law 35 = .ok (.aload_n 0, 1) := dd_L_law 20 (35, .aload_n 0, 1) rfl
theorem d_L_law_36 : decode b_L_law 36 = .ok (.arraylength, 1) := dd_L_law 21 (36, .arraylength, 1) rfl
theorem d_L_law_37 : decode b_L_law 37 = .ok (.bipush 6, 2) := dd_L_law 22 (37, .bipush 6, 2) rfl
theorem d_L_law_39 : decode b_L_law 39 = .ok (.isub, 1) := dd_L_law 23 (39, .isub, 1) rfl
theorem d_L_law_40 : decode b_L_law 40 = .ok (.if_icmp .gt 940, 3) := dd_L_law 24 (40, .if_icmp .gt 940, 3) rfl
theorem d_L_law_43 : decode b_L_law 43 = .ok (.aload_n 0, 1) := dd_L_law 25 (43, .aload_n 0, 1) rfl
theorem d_L_law_44 : decode b_L_law 44 = .ok (.iload 4, 2) := dd_L_law 26 (44, .iload 4, 2) rfl
theorem d_L_law_46 : decode b_L_law 46 = .ok (.iaload, 1) := dd_L_law 27 (46, .iaload, 1) rfl
theorem d_L_law_47 : decode b_L_law 47 = .ok (.bipush 15, 2) := dd_L_law 28 (47, .bipush 15, 2) rfl
theorem d_L_law_49 : decode b_L_law 49 = .ok (.iand, 1) := dd_L_law 29 (49, .iand, 1) rfl
theorem d_L_law_50 : decode b_L_law 50 = .ok (.tableswitch 924 0 15 #[78, 158, 207, 275, 343, 399, 455, 499, 512, 580, 648, 691, 795, 875, 888, 913], 78) := dd_L_law 30 (50, .tableswitch 924 0 15 #[78, 158, 207, 275, 343, 399, 455, 499, 512, 580, 648, 691, 795, 875, 888, 913], 78) rfl
theorem d_L_law_128 : decode b_L_law 128 = .ok (.aload_n 1, 1) := dd_L_law 31 (128, .aload_n 1, 1) rfl
theorem d_L_law_129 : decode b_L_law 129 = .ok (.aload_n 0, 1) := dd_L_law 32 (129, .aload_n 0, 1) rfl
theorem d_L_law_130 : decode b_L_law 130 = .ok (.iload 4, 2) := dd_L_law 33 (130, .iload 4, 2) rfl
theorem d_L_law_132 : decode b_L_law 132 = .ok (.iconst 1, 1) := dd_L_law 34 (132, .iconst 1, 1) rfl
theorem d_L_law_133 : decode b_L_law 133 = .ok (.iadd, 1) := dd_L_law 35 (133, .iadd, 1) rfl
theorem d_L_law_134 : decode b_L_law 134 = .ok (.iaload, 1) := dd_L_law 36 (134, .iaload, 1) rfl
theorem d_L_law_135 : decode b_L_law 135 = .ok (.aload_n 0, 1) := dd_L_law 37 (135, .aload_n 0, 1) rfl
theorem d_L_law_136 : decode b_L_law 136 = .ok (.iload 4, 2) := dd_L_law 38 (136, .iload 4, 2) rfl
theorem d_L_law_138 : decode b_L_law 138 = .ok (.iconst 2, 1) := dd_L_law 39 (138, .iconst 2, 1) rfl
theorem d_L_law_139 : decode b_L_law 139 = .ok (.iadd, 1) := dd_L_law 40 (139, .iadd, 1) rfl
theorem d_L_law_140 : decode b_L_law 140 = .ok (.iaload, 1) := dd_L_law 41 (140, .iaload, 1) rfl
theorem d_L_law_141 : decode b_L_law 141 = .ok (.aload_n 0, 1) := dd_L_law 42 (141, .aload_n 0, 1) rfl
theorem d_L_law_142 : decode b_L_law 142 = .ok (.iload 4, 2) := dd_L_law 43 (142, .iload 4, 2) rfl
theorem d_L_law_144 : decode b_L_law 144 = .ok (.iconst 3, 1) := dd_L_law 44 (144, .iconst 3, 1) rfl
theorem d_L_law_145 : decode b_L_law 145 = .ok (.iadd, 1) := dd_L_law 45 (145, .iadd, 1) rfl
theorem d_L_law_146 : decode b_L_law 146 = .ok (.iaload, 1) := dd_L_law 46 (146, .iaload, 1) rfl
theorem d_L_law_147 : decode b_L_law 147 = .ok (.aload_n 3, 1) := dd_L_law 47 (147, .aload_n 3, 1) rfl
theorem d_L_law_148 : decode b_L_law 148 = .ok (.invokestatic 68, 3) := dd_L_law 48 (148, .invokestatic 68, 3) rfl
theorem d_L_law_151 : decode b_L_law 151 = .ok (.istore 5, 2) := dd_L_law 49 (151, .istore 5, 2) rfl
theorem d_L_law_153 : decode b_L_law 153 = .ok (.aload_n 2, 1) := dd_L_law 50 (153, .aload_n 2, 1) rfl
theorem d_L_law_154 : decode b_L_law 154 = .ok (.aload_n 0, 1) := dd_L_law 51 (154, .aload_n 0, 1) rfl
theorem d_L_law_155 : decode b_L_law 155 = .ok (.iload 4, 2) := dd_L_law 52 (155, .iload 4, 2) rfl
theorem d_L_law_157 : decode b_L_law 157 = .ok (.iconst 1, 1) := dd_L_law 53 (157, .iconst 1, 1) rfl
theorem d_L_law_158 : decode b_L_law 158 = .ok (.iadd, 1) := dd_L_law 54 (158, .iadd, 1) rfl
theorem d_L_law_159 : decode b_L_law 159 = .ok (.iaload, 1) := dd_L_law 55 (159, .iaload, 1) rfl
theorem d_L_law_160 : decode b_L_law 160 = .ok (.aload_n 0, 1) := dd_L_law 56 (160, .aload_n 0, 1) rfl
theorem d_L_law_161 : decode b_L_law 161 = .ok (.iload 4, 2) := dd_L_law 57 (161, .iload 4, 2) rfl
theorem d_L_law_163 : decode b_L_law 163 = .ok (.iconst 2, 1) := dd_L_law 58 (163, .iconst 2, 1) rfl
theorem d_L_law_164 : decode b_L_law 164 = .ok (.iadd, 1) := dd_L_law 59 (164, .iadd, 1) rfl
theorem d_L_law_165 : decode b_L_law 165 = .ok (.iaload, 1) := dd_L_law 60 (165, .iaload, 1) rfl
theorem d_L_law_166 : decode b_L_law 166 = .ok (.aload_n 0, 1) := dd_L_law 61 (166, .aload_n 0, 1) rfl
theorem d_L_law_167 : decode b_L_law 167 = .ok (.iload 4, 2) := dd_L_law 62 (167, .iload 4, 2) rfl
theorem d_L_law_169 : decode b_L_law 169 = .ok (.iconst 3, 1) := dd_L_law 63 (169, .iconst 3, 1) rfl
theorem d_L_law_170 : decode b_L_law 170 = .ok (.iadd, 1) := dd_L_law 64 (170, .iadd, 1) rfl
theorem d_L_law_171 : decode b_L_law 171 = .ok (.iaload, 1) := dd_L_law 65 (171, .iaload, 1) rfl
theorem d_L_law_172 : decode b_L_law 172 = .ok (.invokevirtual 71, 3) := dd_L_law 66 (172, .invokevirtual 71, 3) rfl
theorem d_L_law_175 : decode b_L_law 175 = .ok (.istore 6, 2) := dd_L_law 67 (175, .istore 6, 2) rfl
theorem d_L_law_177 : decode b_L_law 177 = .ok (.aload_n 2, 1) := dd_L_law 68 (177, .aload_n 2, 1) rfl
theorem d_L_law_178 : decode b_L_law 178 = .ok (.invokevirtual 72, 3) := dd_L_law 69 (178, .invokevirtual 72, 3) rfl
theorem d_L_law_181 : decode b_L_law 181 = .ok (.iload 5, 2) := dd_L_law 70 (181, .iload 5, 2) rfl
theorem d_L_law_183 : decode b_L_law 183 = .ok (.if_icmp .eq 5, 3) := dd_L_law 71 (183, .if_icmp .eq 5, 3) rfl
theorem d_L_law_186 : decode b_L_law 186 = .ok (.iconst 0, 1) := dd_L_law 72 (186, .iconst 0, 1) rfl
theorem d_L_law_187 : decode b_L_law 187 = .ok (.ireturn, 1) := dd_L_law 73 (187, .ireturn, 1) rfl
theorem d_L_law_188 : decode b_L_law 188 = .ok (.iload 5, 2) := dd_L_law 74 (188, .iload 5, 2) rfl
theorem d_L_law_190 : decode b_L_law 190 = .ok (.ifCond .ne 15, 3) := dd_L_law 75 (190, .ifCond .ne 15, 3) rfl
theorem d_L_law_193 : decode b_L_law 193 = .ok (.aload_n 3, 1) := dd_L_law 76 (193, .aload_n 3, 1) rfl
theorem d_L_law_194 : decode b_L_law 194 = .ok (.iconst 0, 1) := dd_L_law 77 (194, .iconst 0, 1) rfl
theorem d_L_law_195 : decode b_L_law 195 = .ok (.laload, 1) := dd_L_law 78 (195, .laload, 1) rfl
theorem d_L_law_196 : decode b_L_law 196 = .ok (.iload 6, 2) := dd_L_law 79 (196, .iload 6, 2) rfl
theorem d_L_law_198 : decode b_L_law 198 = .ok (.i2l, 1) := dd_L_law 80 (198, .i2l, 1) rfl
theorem d_L_law_199 : decode b_L_law 199 = .ok (.lcmp, 1) := dd_L_law 81 (199, .lcmp, 1) rfl
theorem d_L_law_200 : decode b_L_law 200 = .ok (.ifCond .eq 5, 3) := dd_L_law 82 (200, .ifCond .eq 5, 3) rfl
theorem d_L_law_203 : decode b_L_law 203 = .ok (.iconst 0, 1) := dd_L_law 83 (203, .iconst 0, 1) rfl
theorem d_L_law_204 : decode b_L_law 204 = .ok (.ireturn, 1) := dd_L_law 84 (204, .ireturn, 1) rfl
theorem d_L_law_205 : decode b_L_law 205 = .ok (.goto 769, 3) := dd_L_law 85 (205, .goto 769, 3) rfl
theorem d_L_law_208 : decode b_L_law 208 = .ok (.aload_n 1, 1) := dd_L_law 86 (208, .aload_n 1, 1) rfl
theorem d_L_law_209 : decode b_L_law 209 = .ok (.aload_n 0, 1) := dd_L_law 87 (209, .aload_n 0, 1) rfl
theorem d_L_law_210 : decode b_L_law 210 = .ok (.iload 4, 2) := dd_L_law 88 (210, .iload 4, 2) rfl
theorem d_L_law_212 : decode b_L_law 212 = .ok (.iconst 1, 1) := dd_L_law 89 (212, .iconst 1, 1) rfl
theorem d_L_law_213 : decode b_L_law 213 = .ok (.iadd, 1) := dd_L_law 90 (213, .iadd, 1) rfl
theorem d_L_law_214 : decode b_L_law 214 = .ok (.iaload, 1) := dd_L_law 91 (214, .iaload, 1) rfl
theorem d_L_law_215 : decode b_L_law 215 = .ok (.aload_n 0, 1) := dd_L_law 92 (215, .aload_n 0, 1) rfl
theorem d_L_law_216 : decode b_L_law 216 = .ok (.iload 4, 2) := dd_L_law 93 (216, .iload 4, 2) rfl
theorem d_L_law_218 : decode b_L_law 218 = .ok (.iconst 2, 1) := dd_L_law 94 (218, .iconst 2, 1) rfl
theorem d_L_law_219 : decode b_L_law 219 = .ok (.iadd, 1) := dd_L_law 95 (219, .iadd, 1) rfl
theorem d_L_law_220 : decode b_L_law 220 = .ok (.iaload, 1) := dd_L_law 96 (220, .iaload, 1) rfl
theorem d_L_law_221 : decode b_L_law 221 = .ok (.aload_n 0, 1) := dd_L_law 97 (221, .aload_n 0, 1) rfl
theorem d_L_law_222 : decode b_L_law 222 = .ok (.iload 4, 2) := dd_L_law 98 (222, .iload 4, 2) rfl
theorem d_L_law_224 : decode b_L_law 224 = .ok (.iconst 3, 1) := dd_L_law 99 (224, .iconst 3, 1) rfl
theorem d_L_law_225 : decode b_L_law 225 = .ok (.iadd, 1) := dd_L_law 100 (225, .iadd, 1) rfl
theorem d_L_law_226 : decode b_L_law 226 = .ok (.iaload, 1) := dd_L_law 101 (226, .iaload, 1) rfl
theorem d_L_law_227 : decode b_L_law 227 = .ok (.invokevirtual 75, 3) := dd_L_law 102 (227, .invokevirtual 75, 3) rfl
theorem d_L_law_230 : decode b_L_law 230 = .ok (.aload_n 2, 1) := dd_L_law 103 (230, .aload_n 2, 1) rfl
theorem d_L_law_231 : decode b_L_law 231 = .ok (.aload_n 0, 1) := dd_L_law 104 (231, .aload_n 0, 1) rfl
theorem d_L_law_232 : decode b_L_law 232 = .ok (.iload 4, 2) := dd_L_law 105 (232, .iload 4, 2) rfl
theorem d_L_law_234 : decode b_L_law 234 = .ok (.iconst 1, 1) := dd_L_law 106 (234, .iconst 1, 1) rfl
theorem d_L_law_235 : decode b_L_law 235 = .ok (.iadd, 1) := dd_L_law 107 (235, .iadd, 1) rfl
theorem d_L_law_236 : decode b_L_law 236 = .ok (.iaload, 1) := dd_L_law 108 (236, .iaload, 1) rfl
theorem d_L_law_237 : decode b_L_law 237 = .ok (.aload_n 0, 1) := dd_L_law 109 (237, .aload_n 0, 1) rfl
theorem d_L_law_238 : decode b_L_law 238 = .ok (.iload 4, 2) := dd_L_law 110 (238, .iload 4, 2) rfl
theorem d_L_law_240 : decode b_L_law 240 = .ok (.iconst 2, 1) := dd_L_law 111 (240, .iconst 2, 1) rfl
theorem d_L_law_241 : decode b_L_law 241 = .ok (.iadd, 1) := dd_L_law 112 (241, .iadd, 1) rfl
theorem d_L_law_242 : decode b_L_law 242 = .ok (.iaload, 1) := dd_L_law 113 (242, .iaload, 1) rfl
theorem d_L_law_243 : decode b_L_law 243 = .ok (.aload_n 0, 1) := dd_L_law 114 (243, .aload_n 0, 1) rfl
theorem d_L_law_244 : decode b_L_law 244 = .ok (.iload 4, 2) := dd_L_law 115 (244, .iload 4, 2) rfl
theorem d_L_law_246 : decode b_L_law 246 = .ok (.iconst 3, 1) := dd_L_law 116 (246, .iconst 3, 1) rfl
theorem d_L_law_247 : decode b_L_law 247 = .ok (.iadd, 1) := dd_L_law 117 (247, .iadd, 1) rfl
theorem d_L_law_248 : decode b_L_law 248 = .ok (.iaload, 1) := dd_L_law 118 (248, .iaload, 1) rfl
theorem d_L_law_249 : decode b_L_law 249 = .ok (.invokevirtual 78, 3) := dd_L_law 119 (249, .invokevirtual 78, 3) rfl
theorem d_L_law_252 : decode b_L_law 252 = .ok (.if_icmp .eq 722, 3) := dd_L_law 120 (252, .if_icmp .eq 722, 3) rfl
theorem d_L_law_255 : decode b_L_law 255 = .ok (.iconst 0, 1) := dd_L_law 121 (255, .iconst 0, 1) rfl
theorem d_L_law_256 : decode b_L_law 256 = .ok (.ireturn, 1) := dd_L_law 122 (256, .ireturn, 1) rfl
theorem d_L_law_257 : decode b_L_law 257 = .ok (.aload_n 1, 1) := dd_L_law 123 (257, .aload_n 1, 1) rfl
theorem d_L_law_258 : decode b_L_law 258 = .ok (.aload_n 0, 1) := dd_L_law 124 (258, .aload_n 0, 1) rfl
theorem d_L_law_259 : decode b_L_law 259 = .ok (.iload 4, 2) := dd_L_law 125 (259, .iload 4, 2) rfl
theorem d_L_law_261 : decode b_L_law 261 = .ok (.iconst 1, 1) := dd_L_law 126 (261, .iconst 1, 1) rfl
theorem d_L_law_262 : decode b_L_law 262 = .ok (.iadd, 1) := dd_L_law 127 (262, .iadd, 1) rfl
theorem d_L_law_263 : decode b_L_law 263 = .ok (.iaload, 1) := dd_L_law 128 (263, .iaload, 1) rfl
theorem d_L_law_264 : decode b_L_law 264 = .ok (.aload_n 0, 1) := dd_L_law 129 (264, .aload_n 0, 1) rfl
theorem d_L_law_265 : decode b_L_law 265 = .ok (.iload 4, 2) := dd_L_law 130 (265, .iload 4, 2) rfl
theorem d_L_law_267 : decode b_L_law 267 = .ok (.iconst 2, 1) := dd_L_law 131 (267, .iconst 2, 1) rfl
theorem d_L_law_268 : decode b_L_law 268 = .ok (.iadd, 1) := dd_L_law 132 (268, .iadd, 1) rfl
theorem d_L_law_269 : decode b_L_law 269 = .ok (.iaload, 1) := dd_L_law 133 (269, .iaload, 1) rfl
theorem d_L_law_270 : decode b_L_law 270 = .ok (.aload_n 3, 1) := dd_L_law 134 (270, .aload_n 3, 1) rfl
theorem d_L_law_271 : decode b_L_law 271 = .ok (.invokestatic 79, 3) := dd_L_law 135 (271, .invokestatic 79, 3) rfl
theorem d_L_law_274 : decode b_L_law 274 = .ok (.istore 5, 2) := dd_L_law 136 (274, .istore 5, 2) rfl
theorem d_L_law_276 : decode b_L_law 276 = .ok (.aload_n 2, 1) := dd_L_law 137 (276, .aload_n 2, 1) rfl
theorem d_L_law_277 : decode b_L_law 277 = .ok (.aload_n 0, 1) := dd_L_law 138 (277, .aload_n 0, 1) rfl
theorem d_L_law_278 : decode b_L_law 278 = .ok (.iload 4, 2) := dd_L_law 139 (278, .iload 4, 2) rfl
theorem d_L_law_280 : decode b_L_law 280 = .ok (.iconst 1, 1) := dd_L_law 140 (280, .iconst 1, 1) rfl
theorem d_L_law_281 : decode b_L_law 281 = .ok (.iadd, 1) := dd_L_law 141 (281, .iadd, 1) rfl
theorem d_L_law_282 : decode b_L_law 282 = .ok (.iaload, 1) := dd_L_law 142 (282, .iaload, 1) rfl
theorem d_L_law_283 : decode b_L_law 283 = .ok (.aload_n 0, 1) := dd_L_law 143 (283, .aload_n 0, 1) rfl
theorem d_L_law_284 : decode b_L_law 284 = .ok (.iload 4, 2) := dd_L_law 144 (284, .iload 4, 2) rfl
theorem d_L_law_286 : decode b_L_law 286 = .ok (.iconst 2, 1) := dd_L_law 145 (286, .iconst 2, 1) rfl
theorem d_L_law_287 : decode b_L_law 287 = .ok (.iadd, 1) := dd_L_law 146 (287, .iadd, 1) rfl
theorem d_L_law_288 : decode b_L_law 288 = .ok (.iaload, 1) := dd_L_law 147 (288, .iaload, 1) rfl
theorem d_L_law_289 : decode b_L_law 289 = .ok (.invokevirtual 82, 3) := dd_L_law 148 (289, .invokevirtual 82, 3) rfl
theorem d_L_law_292 : decode b_L_law 292 = .ok (.istore 6, 2) := dd_L_law 149 (292, .istore 6, 2) rfl
theorem d_L_law_294 : decode b_L_law 294 = .ok (.aload_n 2, 1) := dd_L_law 150 (294, .aload_n 2, 1) rfl
theorem d_L_law_295 : decode b_L_law 295 = .ok (.invokevirtual 72, 3) := dd_L_law 151 (295, .invokevirtual 72, 3) rfl
theorem d_L_law_298 : decode b_L_law 298 = .ok (.iload 5, 2) := dd_L_law 152 (298, .iload 5, 2) rfl
theorem d_L_law_300 : decode b_L_law 300 = .ok (.if_icmp .eq 5, 3) := dd_L_law 153 (300, .if_icmp .eq 5, 3) rfl
theorem d_L_law_303 : decode b_L_law 303 = .ok (.iconst 0, 1) := dd_L_law 154 (303, .iconst 0, 1) rfl
theorem d_L_law_304 : decode b_L_law 304 = .ok (.ireturn, 1) := dd_L_law 155 (304, .ireturn, 1) rfl
theorem d_L_law_305 : decode b_L_law 305 = .ok (.iload 5, 2) := dd_L_law 156 (305, .iload 5, 2) rfl
theorem d_L_law_307 : decode b_L_law 307 = .ok (.ifCond .ne 15, 3) := dd_L_law 157 (307, .ifCond .ne 15, 3) rfl
theorem d_L_law_310 : decode b_L_law 310 = .ok (.aload_n 3, 1) := dd_L_law 158 (310, .aload_n 3, 1) rfl
theorem d_L_law_311 : decode b_L_law 311 = .ok (.iconst 0, 1) := dd_L_law 159 (311, .iconst 0, 1) rfl
theorem d_L_law_312 : decode b_L_law 312 = .ok (.laload, 1) := dd_L_law 160 (312, .laload, 1) rfl
theorem d_L_law_313 : decode b_L_law 313 = .ok (.iload 6, 2) := dd_L_law 161 (313, .iload 6, 2) rfl
theorem d_L_law_315 : decode b_L_law 315 = .ok (.i2l, 1) := dd_L_law 162 (315, .i2l, 1) rfl
theorem d_L_law_316 : decode b_L_law 316 = .ok (.lcmp, 1) := dd_L_law 163 (316, .lcmp, 1) rfl
theorem d_L_law_317 : decode b_L_law 317 = .ok (.ifCond .eq 5, 3) := dd_L_law 164 (317, .ifCond .eq 5, 3) rfl
theorem d_L_law_320 : decode b_L_law 320 = .ok (.iconst 0, 1) := dd_L_law 165 (320, .iconst 0, 1) rfl
theorem d_L_law_321 : decode b_L_law 321 = .ok (.ireturn, 1) := dd_L_law 166 (321, .ireturn, 1) rfl
theorem d_L_law_322 : decode b_L_law 322 = .ok (.goto 652, 3) := dd_L_law 167 (322, .goto 652, 3) rfl
theorem d_L_law_325 : decode b_L_law 325 = .ok (.aload_n 1, 1) := dd_L_law 168 (325, .aload_n 1, 1) rfl
theorem d_L_law_326 : decode b_L_law 326 = .ok (.aload_n 0, 1) := dd_L_law 169 (326, .aload_n 0, 1) rfl
theorem d_L_law_327 : decode b_L_law 327 = .ok (.iload 4, 2) := dd_L_law 170 (327, .iload 4, 2) rfl
theorem d_L_law_329 : decode b_L_law 329 = .ok (.iconst 1, 1) := dd_L_law 171 (329, .iconst 1, 1) rfl
theorem d_L_law_330 : decode b_L_law 330 = .ok (.iadd, 1) := dd_L_law 172 (330, .iadd, 1) rfl
theorem d_L_law_331 : decode b_L_law 331 = .ok (.iaload, 1) := dd_L_law 173 (331, .iaload, 1) rfl
theorem d_L_law_332 : decode b_L_law 332 = .ok (.aload_n 0, 1) := dd_L_law 174 (332, .aload_n 0, 1) rfl
theorem d_L_law_333 : decode b_L_law 333 = .ok (.iload 4, 2) := dd_L_law 175 (333, .iload 4, 2) rfl
theorem d_L_law_335 : decode b_L_law 335 = .ok (.iconst 2, 1) := dd_L_law 176 (335, .iconst 2, 1) rfl
theorem d_L_law_336 : decode b_L_law 336 = .ok (.iadd, 1) := dd_L_law 177 (336, .iadd, 1) rfl
theorem d_L_law_337 : decode b_L_law 337 = .ok (.iaload, 1) := dd_L_law 178 (337, .iaload, 1) rfl
theorem d_L_law_338 : decode b_L_law 338 = .ok (.aload_n 3, 1) := dd_L_law 179 (338, .aload_n 3, 1) rfl
theorem d_L_law_339 : decode b_L_law 339 = .ok (.invokestatic 83, 3) := dd_L_law 180 (339, .invokestatic 83, 3) rfl
theorem d_L_law_342 : decode b_L_law 342 = .ok (.istore 5, 2) := dd_L_law 181 (342, .istore 5, 2) rfl
theorem d_L_law_344 : decode b_L_law 344 = .ok (.aload_n 2, 1) := dd_L_law 182 (344, .aload_n 2, 1) rfl
theorem d_L_law_345 : decode b_L_law 345 = .ok (.aload_n 0, 1) := dd_L_law 183 (345, .aload_n 0, 1) rfl
theorem d_L_law_346 : decode b_L_law 346 = .ok (.iload 4, 2) := dd_L_law 184 (346, .iload 4, 2) rfl
theorem d_L_law_348 : decode b_L_law 348 = .ok (.iconst 1, 1) := dd_L_law 185 (348, .iconst 1, 1) rfl
theorem d_L_law_349 : decode b_L_law 349 = .ok (.iadd, 1) := dd_L_law 186 (349, .iadd, 1) rfl
theorem d_L_law_350 : decode b_L_law 350 = .ok (.iaload, 1) := dd_L_law 187 (350, .iaload, 1) rfl
theorem d_L_law_351 : decode b_L_law 351 = .ok (.aload_n 0, 1) := dd_L_law 188 (351, .aload_n 0, 1) rfl
theorem d_L_law_352 : decode b_L_law 352 = .ok (.iload 4, 2) := dd_L_law 189 (352, .iload 4, 2) rfl
theorem d_L_law_354 : decode b_L_law 354 = .ok (.iconst 2, 1) := dd_L_law 190 (354, .iconst 2, 1) rfl
theorem d_L_law_355 : decode b_L_law 355 = .ok (.iadd, 1) := dd_L_law 191 (355, .iadd, 1) rfl
theorem d_L_law_356 : decode b_L_law 356 = .ok (.iaload, 1) := dd_L_law 192 (356, .iaload, 1) rfl
theorem d_L_law_357 : decode b_L_law 357 = .ok (.invokevirtual 85, 3) := dd_L_law 193 (357, .invokevirtual 85, 3) rfl
theorem d_L_law_360 : decode b_L_law 360 = .ok (.istore 6, 2) := dd_L_law 194 (360, .istore 6, 2) rfl
theorem d_L_law_362 : decode b_L_law 362 = .ok (.aload_n 2, 1) := dd_L_law 195 (362, .aload_n 2, 1) rfl
theorem d_L_law_363 : decode b_L_law 363 = .ok (.invokevirtual 72, 3) := dd_L_law 196 (363, .invokevirtual 72, 3) rfl
theorem d_L_law_366 : decode b_L_law 366 = .ok (.iload 5, 2) := dd_L_law 197 (366, .iload 5, 2) rfl
theorem d_L_law_368 : decode b_L_law 368 = .ok (.if_icmp .eq 5, 3) := dd_L_law 198 (368, .if_icmp .eq 5, 3) rfl
theorem d_L_law_371 : decode b_L_law 371 = .ok (.iconst 0, 1) := dd_L_law 199 (371, .iconst 0, 1) rfl
theorem d_L_law_372 : decode b_L_law 372 = .ok (.ireturn, 1) := dd_L_law 200 (372, .ireturn, 1) rfl
theorem d_L_law_373 : decode b_L_law 373 = .ok (.iload 5, 2) := dd_L_law 201 (373, .iload 5, 2) rfl
theorem d_L_law_375 : decode b_L_law 375 = .ok (.ifCond .ne 15, 3) := dd_L_law 202 (375, .ifCond .ne 15, 3) rfl
theorem d_L_law_378 : decode b_L_law 378 = .ok (.aload_n 3, 1) := dd_L_law 203 (378, .aload_n 3, 1) rfl
theorem d_L_law_379 : decode b_L_law 379 = .ok (.iconst 0, 1) := dd_L_law 204 (379, .iconst 0, 1) rfl
theorem d_L_law_380 : decode b_L_law 380 = .ok (.laload, 1) := dd_L_law 205 (380, .laload, 1) rfl
theorem d_L_law_381 : decode b_L_law 381 = .ok (.iload 6, 2) := dd_L_law 206 (381, .iload 6, 2) rfl
theorem d_L_law_383 : decode b_L_law 383 = .ok (.i2l, 1) := dd_L_law 207 (383, .i2l, 1) rfl
theorem d_L_law_384 : decode b_L_law 384 = .ok (.lcmp, 1) := dd_L_law 208 (384, .lcmp, 1) rfl
theorem d_L_law_385 : decode b_L_law 385 = .ok (.ifCond .eq 5, 3) := dd_L_law 209 (385, .ifCond .eq 5, 3) rfl
theorem d_L_law_388 : decode b_L_law 388 = .ok (.iconst 0, 1) := dd_L_law 210 (388, .iconst 0, 1) rfl
theorem d_L_law_389 : decode b_L_law 389 = .ok (.ireturn, 1) := dd_L_law 211 (389, .ireturn, 1) rfl
theorem d_L_law_390 : decode b_L_law 390 = .ok (.goto 584, 3) := dd_L_law 212 (390, .goto 584, 3) rfl
theorem d_L_law_393 : decode b_L_law 393 = .ok (.aload_n 1, 1) := dd_L_law 213 (393, .aload_n 1, 1) rfl
theorem d_L_law_394 : decode b_L_law 394 = .ok (.aload_n 0, 1) := dd_L_law 214 (394, .aload_n 0, 1) rfl
theorem d_L_law_395 : decode b_L_law 395 = .ok (.iload 4, 2) := dd_L_law 215 (395, .iload 4, 2) rfl
theorem d_L_law_397 : decode b_L_law 397 = .ok (.iconst 1, 1) := dd_L_law 216 (397, .iconst 1, 1) rfl
theorem d_L_law_398 : decode b_L_law 398 = .ok (.iadd, 1) := dd_L_law 217 (398, .iadd, 1) rfl
theorem d_L_law_399 : decode b_L_law 399 = .ok (.iaload, 1) := dd_L_law 218 (399, .iaload, 1) rfl
theorem d_L_law_400 : decode b_L_law 400 = .ok (.aload_n 3, 1) := dd_L_law 219 (400, .aload_n 3, 1) rfl
theorem d_L_law_401 : decode b_L_law 401 = .ok (.invokestatic 86, 3) := dd_L_law 220 (401, .invokestatic 86, 3) rfl
theorem d_L_law_404 : decode b_L_law 404 = .ok (.istore 5, 2) := dd_L_law 221 (404, .istore 5, 2) rfl
theorem d_L_law_406 : decode b_L_law 406 = .ok (.aload_n 2, 1) := dd_L_law 222 (406, .aload_n 2, 1) rfl
theorem d_L_law_407 : decode b_L_law 407 = .ok (.aload_n 0, 1) := dd_L_law 223 (407, .aload_n 0, 1) rfl
theorem d_L_law_408 : decode b_L_law 408 = .ok (.iload 4, 2) := dd_L_law 224 (408, .iload 4, 2) rfl
theorem d_L_law_410 : decode b_L_law 410 = .ok (.iconst 1, 1) := dd_L_law 225 (410, .iconst 1, 1) rfl
theorem d_L_law_411 : decode b_L_law 411 = .ok (.iadd, 1) := dd_L_law 226 (411, .iadd, 1) rfl
theorem d_L_law_412 : decode b_L_law 412 = .ok (.iaload, 1) := dd_L_law 227 (412, .iaload, 1) rfl
theorem d_L_law_413 : decode b_L_law 413 = .ok (.invokevirtual 89, 3) := dd_L_law 228 (413, .invokevirtual 89, 3) rfl
theorem d_L_law_416 : decode b_L_law 416 = .ok (.istore 6, 2) := dd_L_law 229 (416, .istore 6, 2) rfl
theorem d_L_law_418 : decode b_L_law 418 = .ok (.aload_n 2, 1) := dd_L_law 230 (418, .aload_n 2, 1) rfl
theorem d_L_law_419 : decode b_L_law 419 = .ok (.invokevirtual 72, 3) := dd_L_law 231 (419, .invokevirtual 72, 3) rfl
theorem d_L_law_422 : decode b_L_law 422 = .ok (.iload 5, 2) := dd_L_law 232 (422, .iload 5, 2) rfl
theorem d_L_law_424 : decode b_L_law 424 = .ok (.if_icmp .eq 5, 3) := dd_L_law 233 (424, .if_icmp .eq 5, 3) rfl
theorem d_L_law_427 : decode b_L_law 427 = .ok (.iconst 0, 1) := dd_L_law 234 (427, .iconst 0, 1) rfl
theorem d_L_law_428 : decode b_L_law 428 = .ok (.ireturn, 1) := dd_L_law 235 (428, .ireturn, 1) rfl
theorem d_L_law_429 : decode b_L_law 429 = .ok (.iload 5, 2) := dd_L_law 236 (429, .iload 5, 2) rfl
theorem d_L_law_431 : decode b_L_law 431 = .ok (.ifCond .ne 15, 3) := dd_L_law 237 (431, .ifCond .ne 15, 3) rfl
theorem d_L_law_434 : decode b_L_law 434 = .ok (.aload_n 3, 1) := dd_L_law 238 (434, .aload_n 3, 1) rfl
theorem d_L_law_435 : decode b_L_law 435 = .ok (.iconst 0, 1) := dd_L_law 239 (435, .iconst 0, 1) rfl
theorem d_L_law_436 : decode b_L_law 436 = .ok (.laload, 1) := dd_L_law 240 (436, .laload, 1) rfl
theorem d_L_law_437 : decode b_L_law 437 = .ok (.iload 6, 2) := dd_L_law 241 (437, .iload 6, 2) rfl
theorem d_L_law_439 : decode b_L_law 439 = .ok (.i2l, 1) := dd_L_law 242 (439, .i2l, 1) rfl
theorem d_L_law_440 : decode b_L_law 440 = .ok (.lcmp, 1) := dd_L_law 243 (440, .lcmp, 1) rfl
theorem d_L_law_441 : decode b_L_law 441 = .ok (.ifCond .eq 5, 3) := dd_L_law 244 (441, .ifCond .eq 5, 3) rfl
theorem d_L_law_444 : decode b_L_law 444 = .ok (.iconst 0, 1) := dd_L_law 245 (444, .iconst 0, 1) rfl
theorem d_L_law_445 : decode b_L_law 445 = .ok (.ireturn, 1) := dd_L_law 246 (445, .ireturn, 1) rfl
theorem d_L_law_446 : decode b_L_law 446 = .ok (.goto 528, 3) := dd_L_law 247 (446, .goto 528, 3) rfl
theorem d_L_law_449 : decode b_L_law 449 = .ok (.aload_n 1, 1) := dd_L_law 248 (449, .aload_n 1, 1) rfl
theorem d_L_law_450 : decode b_L_law 450 = .ok (.aload_n 0, 1) := dd_L_law 249 (450, .aload_n 0, 1) rfl
theorem d_L_law_451 : decode b_L_law 451 = .ok (.iload 4, 2) := dd_L_law 250 (451, .iload 4, 2) rfl
theorem d_L_law_453 : decode b_L_law 453 = .ok (.iconst 1, 1) := dd_L_law 251 (453, .iconst 1, 1) rfl
theorem d_L_law_454 : decode b_L_law 454 = .ok (.iadd, 1) := dd_L_law 252 (454, .iadd, 1) rfl
theorem d_L_law_455 : decode b_L_law 455 = .ok (.iaload, 1) := dd_L_law 253 (455, .iaload, 1) rfl
theorem d_L_law_456 : decode b_L_law 456 = .ok (.aload_n 3, 1) := dd_L_law 254 (456, .aload_n 3, 1) rfl
theorem d_L_law_457 : decode b_L_law 457 = .ok (.invokestatic 90, 3) := dd_L_law 255 (457, .invokestatic 90, 3) rfl
theorem d_L_law_460 : decode b_L_law 460 = .ok (.istore 5, 2) := dd_L_law 256 (460, .istore 5, 2) rfl
theorem d_L_law_462 : decode b_L_law 462 = .ok (.aload_n 2, 1) := dd_L_law 257 (462, .aload_n 2, 1) rfl
theorem d_L_law_463 : decode b_L_law 463 = .ok (.aload_n 0, 1) := dd_L_law 258 (463, .aload_n 0, 1) rfl
theorem d_L_law_464 : decode b_L_law 464 = .ok (.iload 4, 2) := dd_L_law 259 (464, .iload 4, 2) rfl
theorem d_L_law_466 : decode b_L_law 466 = .ok (.iconst 1, 1) := dd_L_law 260 (466, .iconst 1, 1) rfl
theorem d_L_law_467 : decode b_L_law 467 = .ok (.iadd, 1) := dd_L_law 261 (467, .iadd, 1) rfl
theorem d_L_law_468 : decode b_L_law 468 = .ok (.iaload, 1) := dd_L_law 262 (468, .iaload, 1) rfl
theorem d_L_law_469 : decode b_L_law 469 = .ok (.invokevirtual 92, 3) := dd_L_law 263 (469, .invokevirtual 92, 3) rfl
theorem d_L_law_472 : decode b_L_law 472 = .ok (.istore 6, 2) := dd_L_law 264 (472, .istore 6, 2) rfl
theorem d_L_law_474 : decode b_L_law 474 = .ok (.aload_n 2, 1) := dd_L_law 265 (474, .aload_n 2, 1) rfl
theorem d_L_law_475 : decode b_L_law 475 = .ok (.invokevirtual 72, 3) := dd_L_law 266 (475, .invokevirtual 72, 3) rfl
theorem d_L_law_478 : decode b_L_law 478 = .ok (.iload 5, 2) := dd_L_law 267 (478, .iload 5, 2) rfl
theorem d_L_law_480 : decode b_L_law 480 = .ok (.if_icmp .eq 5, 3) := dd_L_law 268 (480, .if_icmp .eq 5, 3) rfl
theorem d_L_law_483 : decode b_L_law 483 = .ok (.iconst 0, 1) := dd_L_law 269 (483, .iconst 0, 1) rfl
theorem d_L_law_484 : decode b_L_law 484 = .ok (.ireturn, 1) := dd_L_law 270 (484, .ireturn, 1) rfl
theorem d_L_law_485 : decode b_L_law 485 = .ok (.iload 5, 2) := dd_L_law 271 (485, .iload 5, 2) rfl
theorem d_L_law_487 : decode b_L_law 487 = .ok (.ifCond .ne 15, 3) := dd_L_law 272 (487, .ifCond .ne 15, 3) rfl
theorem d_L_law_490 : decode b_L_law 490 = .ok (.aload_n 3, 1) := dd_L_law 273 (490, .aload_n 3, 1) rfl
theorem d_L_law_491 : decode b_L_law 491 = .ok (.iconst 0, 1) := dd_L_law 274 (491, .iconst 0, 1) rfl
theorem d_L_law_492 : decode b_L_law 492 = .ok (.laload, 1) := dd_L_law 275 (492, .laload, 1) rfl
theorem d_L_law_493 : decode b_L_law 493 = .ok (.iload 6, 2) := dd_L_law 276 (493, .iload 6, 2) rfl
theorem d_L_law_495 : decode b_L_law 495 = .ok (.i2l, 1) := dd_L_law 277 (495, .i2l, 1) rfl
theorem d_L_law_496 : decode b_L_law 496 = .ok (.lcmp, 1) := dd_L_law 278 (496, .lcmp, 1) rfl
theorem d_L_law_497 : decode b_L_law 497 = .ok (.ifCond .eq 5, 3) := dd_L_law 279 (497, .ifCond .eq 5, 3) rfl
theorem d_L_law_500 : decode b_L_law 500 = .ok (.iconst 0, 1) := dd_L_law 280 (500, .iconst 0, 1) rfl
theorem d_L_law_501 : decode b_L_law 501 = .ok (.ireturn, 1) := dd_L_law 281 (501, .ireturn, 1) rfl
theorem d_L_law_502 : decode b_L_law 502 = .ok (.goto 472, 3) := dd_L_law 282 (502, .goto 472, 3) rfl
theorem d_L_law_505 : decode b_L_law 505 = .ok (.aload_n 1, 1) := dd_L_law 283 (505, .aload_n 1, 1) rfl
theorem d_L_law_506 : decode b_L_law 506 = .ok (.aload_n 3, 1) := dd_L_law 284 (506, .aload_n 3, 1) rfl
theorem d_L_law_507 : decode b_L_law 507 = .ok (.invokestatic 93, 3) := dd_L_law 285 (507, .invokestatic 93, 3) rfl
theorem d_L_law_510 : decode b_L_law 510 = .ok (.istore 5, 2) := dd_L_law 286 (510, .istore 5, 2) rfl
theorem d_L_law_512 : decode b_L_law 512 = .ok (.aload_n 2, 1) := dd_L_law 287 (512, .aload_n 2, 1) rfl
theorem d_L_law_513 : decode b_L_law 513 = .ok (.invokevirtual 96, 3) := dd_L_law 288 (513, .invokevirtual 96, 3) rfl
theorem d_L_law_516 : decode b_L_law 516 = .ok (.istore 6, 2) := dd_L_law 289 (516, .istore 6, 2) rfl
theorem d_L_law_518 : decode b_L_law 518 = .ok (.aload_n 2, 1) := dd_L_law 290 (518, .aload_n 2, 1) rfl
theorem d_L_law_519 : decode b_L_law 519 = .ok (.invokevirtual 72, 3) := dd_L_law 291 (519, .invokevirtual 72, 3) rfl
theorem d_L_law_522 : decode b_L_law 522 = .ok (.iload 5, 2) := dd_L_law 292 (522, .iload 5, 2) rfl
theorem d_L_law_524 : decode b_L_law 524 = .ok (.if_icmp .eq 5, 3) := dd_L_law 293 (524, .if_icmp .eq 5, 3) rfl
theorem d_L_law_527 : decode b_L_law 527 = .ok (.iconst 0, 1) := dd_L_law 294 (527, .iconst 0, 1) rfl
theorem d_L_law_528 : decode b_L_law 528 = .ok (.ireturn, 1) := dd_L_law 295 (528, .ireturn, 1) rfl
theorem d_L_law_529 : decode b_L_law 529 = .ok (.iload 5, 2) := dd_L_law 296 (529, .iload 5, 2) rfl
theorem d_L_law_531 : decode b_L_law 531 = .ok (.ifCond .ne 15, 3) := dd_L_law 297 (531, .ifCond .ne 15, 3) rfl
theorem d_L_law_534 : decode b_L_law 534 = .ok (.aload_n 3, 1) := dd_L_law 298 (534, .aload_n 3, 1) rfl
theorem d_L_law_535 : decode b_L_law 535 = .ok (.iconst 0, 1) := dd_L_law 299 (535, .iconst 0, 1) rfl
theorem d_L_law_536 : decode b_L_law 536 = .ok (.laload, 1) := dd_L_law 300 (536, .laload, 1) rfl
theorem d_L_law_537 : decode b_L_law 537 = .ok (.iload 6, 2) := dd_L_law 301 (537, .iload 6, 2) rfl
theorem d_L_law_539 : decode b_L_law 539 = .ok (.i2l, 1) := dd_L_law 302 (539, .i2l, 1) rfl
theorem d_L_law_540 : decode b_L_law 540 = .ok (.lcmp, 1) := dd_L_law 303 (540, .lcmp, 1) rfl
theorem d_L_law_541 : decode b_L_law 541 = .ok (.ifCond .eq 5, 3) := dd_L_law 304 (541, .ifCond .eq 5, 3) rfl
theorem d_L_law_544 : decode b_L_law 544 = .ok (.iconst 0, 1) := dd_L_law 305 (544, .iconst 0, 1) rfl
theorem d_L_law_545 : decode b_L_law 545 = .ok (.ireturn, 1) := dd_L_law 306 (545, .ireturn, 1) rfl
theorem d_L_law_546 : decode b_L_law 546 = .ok (.goto 428, 3) := dd_L_law 307 (546, .goto 428, 3) rfl
theorem d_L_law_549 : decode b_L_law 549 = .ok (.aload_n 1, 1) := dd_L_law 308 (549, .aload_n 1, 1) rfl
theorem d_L_law_550 : decode b_L_law 550 = .ok (.invokevirtual 97, 3) := dd_L_law 309 (550, .invokevirtual 97, 3) rfl
theorem d_L_law_553 : decode b_L_law 553 = .ok (.aload_n 2, 1) := dd_L_law 310 (553, .aload_n 2, 1) rfl
theorem d_L_law_554 : decode b_L_law 554 = .ok (.invokevirtual 100, 3) := dd_L_law 311 (554, .invokevirtual 100, 3) rfl
theorem d_L_law_557 : decode b_L_law 557 = .ok (.if_icmp .eq 417, 3) := dd_L_law 312 (557, .if_icmp .eq 417, 3) rfl
theorem d_L_law_560 : decode b_L_law 560 = .ok (.iconst 0, 1) := dd_L_law 313 (560, .iconst 0, 1) rfl
theorem d_L_law_561 : decode b_L_law 561 = .ok (.ireturn, 1) := dd_L_law 314 (561, .ireturn, 1) rfl
theorem d_L_law_562 : decode b_L_law 562 = .ok (.aload_n 1, 1) := dd_L_law 315 (562, .aload_n 1, 1) rfl
theorem d_L_law_563 : decode b_L_law 563 = .ok (.aload_n 0, 1) := dd_L_law 316 (563, .aload_n 0, 1) rfl
theorem d_L_law_564 : decode b_L_law 564 = .ok (.iload 4, 2) := dd_L_law 317 (564, .iload 4, 2) rfl
theorem d_L_law_566 : decode b_L_law 566 = .ok (.iconst 1, 1) := dd_L_law 318 (566, .iconst 1, 1) rfl
theorem d_L_law_567 : decode b_L_law 567 = .ok (.iadd, 1) := dd_L_law 319 (567, .iadd, 1) rfl
theorem d_L_law_568 : decode b_L_law 568 = .ok (.iaload, 1) := dd_L_law 320 (568, .iaload, 1) rfl
theorem d_L_law_569 : decode b_L_law 569 = .ok (.aload_n 0, 1) := dd_L_law 321 (569, .aload_n 0, 1) rfl
theorem d_L_law_570 : decode b_L_law 570 = .ok (.iload 4, 2) := dd_L_law 322 (570, .iload 4, 2) rfl
theorem d_L_law_572 : decode b_L_law 572 = .ok (.iconst 2, 1) := dd_L_law 323 (572, .iconst 2, 1) rfl
theorem d_L_law_573 : decode b_L_law 573 = .ok (.iadd, 1) := dd_L_law 324 (573, .iadd, 1) rfl
theorem d_L_law_574 : decode b_L_law 574 = .ok (.iaload, 1) := dd_L_law 325 (574, .iaload, 1) rfl
theorem d_L_law_575 : decode b_L_law 575 = .ok (.aload_n 3, 1) := dd_L_law 326 (575, .aload_n 3, 1) rfl
theorem d_L_law_576 : decode b_L_law 576 = .ok (.invokestatic 101, 3) := dd_L_law 327 (576, .invokestatic 101, 3) rfl
theorem d_L_law_579 : decode b_L_law 579 = .ok (.istore 5, 2) := dd_L_law 328 (579, .istore 5, 2) rfl
theorem d_L_law_581 : decode b_L_law 581 = .ok (.aload_n 2, 1) := dd_L_law 329 (581, .aload_n 2, 1) rfl
theorem d_L_law_582 : decode b_L_law 582 = .ok (.aload_n 0, 1) := dd_L_law 330 (582, .aload_n 0, 1) rfl
theorem d_L_law_583 : decode b_L_law 583 = .ok (.iload 4, 2) := dd_L_law 331 (583, .iload 4, 2) rfl
theorem d_L_law_585 : decode b_L_law 585 = .ok (.iconst 1, 1) := dd_L_law 332 (585, .iconst 1, 1) rfl
theorem d_L_law_586 : decode b_L_law 586 = .ok (.iadd, 1) := dd_L_law 333 (586, .iadd, 1) rfl
theorem d_L_law_587 : decode b_L_law 587 = .ok (.iaload, 1) := dd_L_law 334 (587, .iaload, 1) rfl
theorem d_L_law_588 : decode b_L_law 588 = .ok (.aload_n 0, 1) := dd_L_law 335 (588, .aload_n 0, 1) rfl
theorem d_L_law_589 : decode b_L_law 589 = .ok (.iload 4, 2) := dd_L_law 336 (589, .iload 4, 2) rfl
theorem d_L_law_591 : decode b_L_law 591 = .ok (.iconst 2, 1) := dd_L_law 337 (591, .iconst 2, 1) rfl
theorem d_L_law_592 : decode b_L_law 592 = .ok (.iadd, 1) := dd_L_law 338 (592, .iadd, 1) rfl
theorem d_L_law_593 : decode b_L_law 593 = .ok (.iaload, 1) := dd_L_law 339 (593, .iaload, 1) rfl
theorem d_L_law_594 : decode b_L_law 594 = .ok (.invokevirtual 103, 3) := dd_L_law 340 (594, .invokevirtual 103, 3) rfl
theorem d_L_law_597 : decode b_L_law 597 = .ok (.istore 6, 2) := dd_L_law 341 (597, .istore 6, 2) rfl
theorem d_L_law_599 : decode b_L_law 599 = .ok (.aload_n 2, 1) := dd_L_law 342 (599, .aload_n 2, 1) rfl
theorem d_L_law_600 : decode b_L_law 600 = .ok (.invokevirtual 72, 3) := dd_L_law 343 (600, .invokevirtual 72, 3) rfl
theorem d_L_law_603 : decode b_L_law 603 = .ok (.iload 5, 2) := dd_L_law 344 (603, .iload 5, 2) rfl
theorem d_L_law_605 : decode b_L_law 605 = .ok (.if_icmp .eq 5, 3) := dd_L_law 345 (605, .if_icmp .eq 5, 3) rfl
theorem d_L_law_608 : decode b_L_law 608 = .ok (.iconst 0, 1) := dd_L_law 346 (608, .iconst 0, 1) rfl
theorem d_L_law_609 : decode b_L_law 609 = .ok (.ireturn, 1) := dd_L_law 347 (609, .ireturn, 1) rfl
theorem d_L_law_610 : decode b_L_law 610 = .ok (.iload 5, 2) := dd_L_law 348 (610, .iload 5, 2) rfl
theorem d_L_law_612 : decode b_L_law 612 = .ok (.ifCond .ne 15, 3) := dd_L_law 349 (612, .ifCond .ne 15, 3) rfl
theorem d_L_law_615 : decode b_L_law 615 = .ok (.aload_n 3, 1) := dd_L_law 350 (615, .aload_n 3, 1) rfl
theorem d_L_law_616 : decode b_L_law 616 = .ok (.iconst 0, 1) := dd_L_law 351 (616, .iconst 0, 1) rfl
theorem d_L_law_617 : decode b_L_law 617 = .ok (.laload, 1) := dd_L_law 352 (617, .laload, 1) rfl
theorem d_L_law_618 : decode b_L_law 618 = .ok (.iload 6, 2) := dd_L_law 353 (618, .iload 6, 2) rfl
theorem d_L_law_620 : decode b_L_law 620 = .ok (.i2l, 1) := dd_L_law 354 (620, .i2l, 1) rfl
theorem d_L_law_621 : decode b_L_law 621 = .ok (.lcmp, 1) := dd_L_law 355 (621, .lcmp, 1) rfl
theorem d_L_law_622 : decode b_L_law 622 = .ok (.ifCond .eq 5, 3) := dd_L_law 356 (622, .ifCond .eq 5, 3) rfl
theorem d_L_law_625 : decode b_L_law 625 = .ok (.iconst 0, 1) := dd_L_law 357 (625, .iconst 0, 1) rfl
theorem d_L_law_626 : decode b_L_law 626 = .ok (.ireturn, 1) := dd_L_law 358 (626, .ireturn, 1) rfl
theorem d_L_law_627 : decode b_L_law 627 = .ok (.goto 347, 3) := dd_L_law 359 (627, .goto 347, 3) rfl
theorem d_L_law_630 : decode b_L_law 630 = .ok (.aload_n 1, 1) := dd_L_law 360 (630, .aload_n 1, 1) rfl
theorem d_L_law_631 : decode b_L_law 631 = .ok (.aload_n 0, 1) := dd_L_law 361 (631, .aload_n 0, 1) rfl
theorem d_L_law_632 : decode b_L_law 632 = .ok (.iload 4, 2) := dd_L_law 362 (632, .iload 4, 2) rfl
theorem d_L_law_634 : decode b_L_law 634 = .ok (.iconst 1, 1) := dd_L_law 363 (634, .iconst 1, 1) rfl
theorem d_L_law_635 : decode b_L_law 635 = .ok (.iadd, 1) := dd_L_law 364 (635, .iadd, 1) rfl
theorem d_L_law_636 : decode b_L_law 636 = .ok (.iaload, 1) := dd_L_law 365 (636, .iaload, 1) rfl
theorem d_L_law_637 : decode b_L_law 637 = .ok (.aload_n 0, 1) := dd_L_law 366 (637, .aload_n 0, 1) rfl
theorem d_L_law_638 : decode b_L_law 638 = .ok (.iload 4, 2) := dd_L_law 367 (638, .iload 4, 2) rfl
theorem d_L_law_640 : decode b_L_law 640 = .ok (.iconst 2, 1) := dd_L_law 368 (640, .iconst 2, 1) rfl
theorem d_L_law_641 : decode b_L_law 641 = .ok (.iadd, 1) := dd_L_law 369 (641, .iadd, 1) rfl
theorem d_L_law_642 : decode b_L_law 642 = .ok (.iaload, 1) := dd_L_law 370 (642, .iaload, 1) rfl
theorem d_L_law_643 : decode b_L_law 643 = .ok (.aload_n 3, 1) := dd_L_law 371 (643, .aload_n 3, 1) rfl
theorem d_L_law_644 : decode b_L_law 644 = .ok (.invokestatic 104, 3) := dd_L_law 372 (644, .invokestatic 104, 3) rfl
theorem d_L_law_647 : decode b_L_law 647 = .ok (.istore 5, 2) := dd_L_law 373 (647, .istore 5, 2) rfl
theorem d_L_law_649 : decode b_L_law 649 = .ok (.aload_n 2, 1) := dd_L_law 374 (649, .aload_n 2, 1) rfl
theorem d_L_law_650 : decode b_L_law 650 = .ok (.aload_n 0, 1) := dd_L_law 375 (650, .aload_n 0, 1) rfl
theorem d_L_law_651 : decode b_L_law 651 = .ok (.iload 4, 2) := dd_L_law 376 (651, .iload 4, 2) rfl
theorem d_L_law_653 : decode b_L_law 653 = .ok (.iconst 1, 1) := dd_L_law 377 (653, .iconst 1, 1) rfl
theorem d_L_law_654 : decode b_L_law 654 = .ok (.iadd, 1) := dd_L_law 378 (654, .iadd, 1) rfl
theorem d_L_law_655 : decode b_L_law 655 = .ok (.iaload, 1) := dd_L_law 379 (655, .iaload, 1) rfl
theorem d_L_law_656 : decode b_L_law 656 = .ok (.aload_n 0, 1) := dd_L_law 380 (656, .aload_n 0, 1) rfl
theorem d_L_law_657 : decode b_L_law 657 = .ok (.iload 4, 2) := dd_L_law 381 (657, .iload 4, 2) rfl
theorem d_L_law_659 : decode b_L_law 659 = .ok (.iconst 2, 1) := dd_L_law 382 (659, .iconst 2, 1) rfl
theorem d_L_law_660 : decode b_L_law 660 = .ok (.iadd, 1) := dd_L_law 383 (660, .iadd, 1) rfl
theorem d_L_law_661 : decode b_L_law 661 = .ok (.iaload, 1) := dd_L_law 384 (661, .iaload, 1) rfl
theorem d_L_law_662 : decode b_L_law 662 = .ok (.invokevirtual 106, 3) := dd_L_law 385 (662, .invokevirtual 106, 3) rfl
theorem d_L_law_665 : decode b_L_law 665 = .ok (.istore 6, 2) := dd_L_law 386 (665, .istore 6, 2) rfl
theorem d_L_law_667 : decode b_L_law 667 = .ok (.aload_n 2, 1) := dd_L_law 387 (667, .aload_n 2, 1) rfl
theorem d_L_law_668 : decode b_L_law 668 = .ok (.invokevirtual 72, 3) := dd_L_law 388 (668, .invokevirtual 72, 3) rfl
theorem d_L_law_671 : decode b_L_law 671 = .ok (.iload 5, 2) := dd_L_law 389 (671, .iload 5, 2) rfl
theorem d_L_law_673 : decode b_L_law 673 = .ok (.if_icmp .eq 5, 3) := dd_L_law 390 (673, .if_icmp .eq 5, 3) rfl
theorem d_L_law_676 : decode b_L_law 676 = .ok (.iconst 0, 1) := dd_L_law 391 (676, .iconst 0, 1) rfl
theorem d_L_law_677 : decode b_L_law 677 = .ok (.ireturn, 1) := dd_L_law 392 (677, .ireturn, 1) rfl
theorem d_L_law_678 : decode b_L_law 678 = .ok (.iload 5, 2) := dd_L_law 393 (678, .iload 5, 2) rfl
theorem d_L_law_680 : decode b_L_law 680 = .ok (.ifCond .ne 15, 3) := dd_L_law 394 (680, .ifCond .ne 15, 3) rfl
theorem d_L_law_683 : decode b_L_law 683 = .ok (.aload_n 3, 1) := dd_L_law 395 (683, .aload_n 3, 1) rfl
theorem d_L_law_684 : decode b_L_law 684 = .ok (.iconst 0, 1) := dd_L_law 396 (684, .iconst 0, 1) rfl
theorem d_L_law_685 : decode b_L_law 685 = .ok (.laload, 1) := dd_L_law 397 (685, .laload, 1) rfl
theorem d_L_law_686 : decode b_L_law 686 = .ok (.iload 6, 2) := dd_L_law 398 (686, .iload 6, 2) rfl
theorem d_L_law_688 : decode b_L_law 688 = .ok (.i2l, 1) := dd_L_law 399 (688, .i2l, 1) rfl
theorem d_L_law_689 : decode b_L_law 689 = .ok (.lcmp, 1) := dd_L_law 400 (689, .lcmp, 1) rfl
theorem d_L_law_690 : decode b_L_law 690 = .ok (.ifCond .eq 5, 3) := dd_L_law 401 (690, .ifCond .eq 5, 3) rfl
theorem d_L_law_693 : decode b_L_law 693 = .ok (.iconst 0, 1) := dd_L_law 402 (693, .iconst 0, 1) rfl
theorem d_L_law_694 : decode b_L_law 694 = .ok (.ireturn, 1) := dd_L_law 403 (694, .ireturn, 1) rfl
theorem d_L_law_695 : decode b_L_law 695 = .ok (.goto 279, 3) := dd_L_law 404 (695, .goto 279, 3) rfl
theorem d_L_law_698 : decode b_L_law 698 = .ok (.aload_n 1, 1) := dd_L_law 405 (698, .aload_n 1, 1) rfl
theorem d_L_law_699 : decode b_L_law 699 = .ok (.aload_n 3, 1) := dd_L_law 406 (699, .aload_n 3, 1) rfl
theorem d_L_law_700 : decode b_L_law 700 = .ok (.invokestatic 107, 3) := dd_L_law 407 (700, .invokestatic 107, 3) rfl
theorem d_L_law_703 : decode b_L_law 703 = .ok (.istore 5, 2) := dd_L_law 408 (703, .istore 5, 2) rfl
theorem d_L_law_705 : decode b_L_law 705 = .ok (.aload_n 2, 1) := dd_L_law 409 (705, .aload_n 2, 1) rfl
theorem d_L_law_706 : decode b_L_law 706 = .ok (.invokevirtual 109, 3) := dd_L_law 410 (706, .invokevirtual 109, 3) rfl
theorem d_L_law_709 : decode b_L_law 709 = .ok (.lstore 6, 2) := dd_L_law 411 (709, .lstore 6, 2) rfl
theorem d_L_law_711 : decode b_L_law 711 = .ok (.aload_n 2, 1) := dd_L_law 412 (711, .aload_n 2, 1) rfl
theorem d_L_law_712 : decode b_L_law 712 = .ok (.invokevirtual 72, 3) := dd_L_law 413 (712, .invokevirtual 72, 3) rfl
theorem d_L_law_715 : decode b_L_law 715 = .ok (.iload 5, 2) := dd_L_law 414 (715, .iload 5, 2) rfl
theorem d_L_law_717 : decode b_L_law 717 = .ok (.if_icmp .eq 5, 3) := dd_L_law 415 (717, .if_icmp .eq 5, 3) rfl
theorem d_L_law_720 : decode b_L_law 720 = .ok (.iconst 0, 1) := dd_L_law 416 (720, .iconst 0, 1) rfl
theorem d_L_law_721 : decode b_L_law 721 = .ok (.ireturn, 1) := dd_L_law 417 (721, .ireturn, 1) rfl
theorem d_L_law_722 : decode b_L_law 722 = .ok (.iload 5, 2) := dd_L_law 418 (722, .iload 5, 2) rfl
theorem d_L_law_724 : decode b_L_law 724 = .ok (.ifCond .ne 14, 3) := dd_L_law 419 (724, .ifCond .ne 14, 3) rfl
theorem d_L_law_727 : decode b_L_law 727 = .ok (.aload_n 3, 1) := dd_L_law 420 (727, .aload_n 3, 1) rfl
theorem d_L_law_728 : decode b_L_law 728 = .ok (.iconst 0, 1) := dd_L_law 421 (728, .iconst 0, 1) rfl
theorem d_L_law_729 : decode b_L_law 729 = .ok (.laload, 1) := dd_L_law 422 (729, .laload, 1) rfl
theorem d_L_law_730 : decode b_L_law 730 = .ok (.lload 6, 2) := dd_L_law 423 (730, .lload 6, 2) rfl
theorem d_L_law_732 : decode b_L_law 732 = .ok (.lcmp, 1) := dd_L_law 424 (732, .lcmp, 1) rfl
theorem d_L_law_733 : decode b_L_law 733 = .ok (.ifCond .eq 5, 3) := dd_L_law 425 (733, .ifCond .eq 5, 3) rfl
theorem d_L_law_736 : decode b_L_law 736 = .ok (.iconst 0, 1) := dd_L_law 426 (736, .iconst 0, 1) rfl
theorem d_L_law_737 : decode b_L_law 737 = .ok (.ireturn, 1) := dd_L_law 427 (737, .ireturn, 1) rfl
theorem d_L_law_738 : decode b_L_law 738 = .ok (.goto 236, 3) := dd_L_law 428 (738, .goto 236, 3) rfl
theorem d_L_law_741 : decode b_L_law 741 = .ok (.aload_n 1, 1) := dd_L_law 429 (741, .aload_n 1, 1) rfl
theorem d_L_law_742 : decode b_L_law 742 = .ok (.aload_n 0, 1) := dd_L_law 430 (742, .aload_n 0, 1) rfl
theorem d_L_law_743 : decode b_L_law 743 = .ok (.iload 4, 2) := dd_L_law 431 (743, .iload 4, 2) rfl
theorem d_L_law_745 : decode b_L_law 745 = .ok (.iconst 1, 1) := dd_L_law 432 (745, .iconst 1, 1) rfl
theorem d_L_law_746 : decode b_L_law 746 = .ok (.iadd, 1) := dd_L_law 433 (746, .iadd, 1) rfl
theorem d_L_law_747 : decode b_L_law 747 = .ok (.iaload, 1) := dd_L_law 434 (747, .iaload, 1) rfl
theorem d_L_law_748 : decode b_L_law 748 = .ok (.aload_n 0, 1) := dd_L_law 435 (748, .aload_n 0, 1) rfl
theorem d_L_law_749 : decode b_L_law 749 = .ok (.iload 4, 2) := dd_L_law 436 (749, .iload 4, 2) rfl
theorem d_L_law_751 : decode b_L_law 751 = .ok (.iconst 2, 1) := dd_L_law 437 (751, .iconst 2, 1) rfl
theorem d_L_law_752 : decode b_L_law 752 = .ok (.iadd, 1) := dd_L_law 438 (752, .iadd, 1) rfl
theorem d_L_law_753 : decode b_L_law 753 = .ok (.iaload, 1) := dd_L_law 439 (753, .iaload, 1) rfl
theorem d_L_law_754 : decode b_L_law 754 = .ok (.aload_n 0, 1) := dd_L_law 440 (754, .aload_n 0, 1) rfl
theorem d_L_law_755 : decode b_L_law 755 = .ok (.iload 4, 2) := dd_L_law 441 (755, .iload 4, 2) rfl
theorem d_L_law_757 : decode b_L_law 757 = .ok (.iconst 3, 1) := dd_L_law 442 (757, .iconst 3, 1) rfl
theorem d_L_law_758 : decode b_L_law 758 = .ok (.iadd, 1) := dd_L_law 443 (758, .iadd, 1) rfl
theorem d_L_law_759 : decode b_L_law 759 = .ok (.iaload, 1) := dd_L_law 444 (759, .iaload, 1) rfl
theorem d_L_law_760 : decode b_L_law 760 = .ok (.aload_n 0, 1) := dd_L_law 445 (760, .aload_n 0, 1) rfl
theorem d_L_law_761 : decode b_L_law 761 = .ok (.iload 4, 2) := dd_L_law 446 (761, .iload 4, 2) rfl
theorem d_L_law_763 : decode b_L_law 763 = .ok (.iconst 4, 1) := dd_L_law 447 (763, .iconst 4, 1) rfl
theorem d_L_law_764 : decode b_L_law 764 = .ok (.iadd, 1) := dd_L_law 448 (764, .iadd, 1) rfl
theorem d_L_law_765 : decode b_L_law 765 = .ok (.iaload, 1) := dd_L_law 449 (765, .iaload, 1) rfl
theorem d_L_law_766 : decode b_L_law 766 = .ok (.aload_n 0, 1) := dd_L_law 450 (766, .aload_n 0, 1) rfl
theorem d_L_law_767 : decode b_L_law 767 = .ok (.iload 4, 2) := dd_L_law 451 (767, .iload 4, 2) rfl
theorem d_L_law_769 : decode b_L_law 769 = .ok (.iconst 5, 1) := dd_L_law 452 (769, .iconst 5, 1) rfl
theorem d_L_law_770 : decode b_L_law 770 = .ok (.iadd, 1) := dd_L_law 453 (770, .iadd, 1) rfl
theorem d_L_law_771 : decode b_L_law 771 = .ok (.iaload, 1) := dd_L_law 454 (771, .iaload, 1) rfl
theorem d_L_law_772 : decode b_L_law 772 = .ok (.aload_n 3, 1) := dd_L_law 455 (772, .aload_n 3, 1) rfl
theorem d_L_law_773 : decode b_L_law 773 = .ok (.invokestatic 110, 3) := dd_L_law 456 (773, .invokestatic 110, 3) rfl
theorem d_L_law_776 : decode b_L_law 776 = .ok (.istore 5, 2) := dd_L_law 457 (776, .istore 5, 2) rfl
theorem d_L_law_778 : decode b_L_law 778 = .ok (.aload_n 2, 1) := dd_L_law 458 (778, .aload_n 2, 1) rfl
theorem d_L_law_779 : decode b_L_law 779 = .ok (.aload_n 0, 1) := dd_L_law 459 (779, .aload_n 0, 1) rfl
theorem d_L_law_780 : decode b_L_law 780 = .ok (.iload 4, 2) := dd_L_law 460 (780, .iload 4, 2) rfl
theorem d_L_law_782 : decode b_L_law 782 = .ok (.iconst 1, 1) := dd_L_law 461 (782, .iconst 1, 1) rfl
theorem d_L_law_783 : decode b_L_law 783 = .ok (.iadd, 1) := dd_L_law 462 (783, .iadd, 1) rfl
theorem d_L_law_784 : decode b_L_law 784 = .ok (.iaload, 1) := dd_L_law 463 (784, .iaload, 1) rfl
theorem d_L_law_785 : decode b_L_law 785 = .ok (.aload_n 0, 1) := dd_L_law 464 (785, .aload_n 0, 1) rfl
theorem d_L_law_786 : decode b_L_law 786 = .ok (.iload 4, 2) := dd_L_law 465 (786, .iload 4, 2) rfl
theorem d_L_law_788 : decode b_L_law 788 = .ok (.iconst 2, 1) := dd_L_law 466 (788, .iconst 2, 1) rfl
theorem d_L_law_789 : decode b_L_law 789 = .ok (.iadd, 1) := dd_L_law 467 (789, .iadd, 1) rfl
theorem d_L_law_790 : decode b_L_law 790 = .ok (.iaload, 1) := dd_L_law 468 (790, .iaload, 1) rfl
theorem d_L_law_791 : decode b_L_law 791 = .ok (.aload_n 0, 1) := dd_L_law 469 (791, .aload_n 0, 1) rfl
theorem d_L_law_792 : decode b_L_law 792 = .ok (.iload 4, 2) := dd_L_law 470 (792, .iload 4, 2) rfl
theorem d_L_law_794 : decode b_L_law 794 = .ok (.iconst 3, 1) := dd_L_law 471 (794, .iconst 3, 1) rfl
theorem d_L_law_795 : decode b_L_law 795 = .ok (.iadd, 1) := dd_L_law 472 (795, .iadd, 1) rfl
theorem d_L_law_796 : decode b_L_law 796 = .ok (.iaload, 1) := dd_L_law 473 (796, .iaload, 1) rfl
theorem d_L_law_797 : decode b_L_law 797 = .ok (.aload_n 0, 1) := dd_L_law 474 (797, .aload_n 0, 1) rfl
theorem d_L_law_798 : decode b_L_law 798 = .ok (.iload 4, 2) := dd_L_law 475 (798, .iload 4, 2) rfl
theorem d_L_law_800 : decode b_L_law 800 = .ok (.iconst 4, 1) := dd_L_law 476 (800, .iconst 4, 1) rfl
theorem d_L_law_801 : decode b_L_law 801 = .ok (.iadd, 1) := dd_L_law 477 (801, .iadd, 1) rfl
theorem d_L_law_802 : decode b_L_law 802 = .ok (.iaload, 1) := dd_L_law 478 (802, .iaload, 1) rfl
theorem d_L_law_803 : decode b_L_law 803 = .ok (.aload_n 0, 1) := dd_L_law 479 (803, .aload_n 0, 1) rfl
theorem d_L_law_804 : decode b_L_law 804 = .ok (.iload 4, 2) := dd_L_law 480 (804, .iload 4, 2) rfl
theorem d_L_law_806 : decode b_L_law 806 = .ok (.iconst 5, 1) := dd_L_law 481 (806, .iconst 5, 1) rfl
theorem d_L_law_807 : decode b_L_law 807 = .ok (.iadd, 1) := dd_L_law 482 (807, .iadd, 1) rfl
theorem d_L_law_808 : decode b_L_law 808 = .ok (.iaload, 1) := dd_L_law 483 (808, .iaload, 1) rfl
theorem d_L_law_809 : decode b_L_law 809 = .ok (.invokevirtual 113, 3) := dd_L_law 484 (809, .invokevirtual 113, 3) rfl
theorem d_L_law_812 : decode b_L_law 812 = .ok (.istore 6, 2) := dd_L_law 485 (812, .istore 6, 2) rfl
theorem d_L_law_814 : decode b_L_law 814 = .ok (.aload_n 2, 1) := dd_L_law 486 (814, .aload_n 2, 1) rfl
theorem d_L_law_815 : decode b_L_law 815 = .ok (.invokevirtual 72, 3) := dd_L_law 487 (815, .invokevirtual 72, 3) rfl
theorem d_L_law_818 : decode b_L_law 818 = .ok (.iload 5, 2) := dd_L_law 488 (818, .iload 5, 2) rfl
theorem d_L_law_820 : decode b_L_law 820 = .ok (.if_icmp .eq 5, 3) := dd_L_law 489 (820, .if_icmp .eq 5, 3) rfl
theorem d_L_law_823 : decode b_L_law 823 = .ok (.iconst 0, 1) := dd_L_law 490 (823, .iconst 0, 1) rfl
theorem d_L_law_824 : decode b_L_law 824 = .ok (.ireturn, 1) := dd_L_law 491 (824, .ireturn, 1) rfl
theorem d_L_law_825 : decode b_L_law 825 = .ok (.iload 5, 2) := dd_L_law 492 (825, .iload 5, 2) rfl
theorem d_L_law_827 : decode b_L_law 827 = .ok (.ifCond .ne 15, 3) := dd_L_law 493 (827, .ifCond .ne 15, 3) rfl
theorem d_L_law_830 : decode b_L_law 830 = .ok (.aload_n 3, 1) := dd_L_law 494 (830, .aload_n 3, 1) rfl
theorem d_L_law_831 : decode b_L_law 831 = .ok (.iconst 0, 1) := dd_L_law 495 (831, .iconst 0, 1) rfl
theorem d_L_law_832 : decode b_L_law 832 = .ok (.laload, 1) := dd_L_law 496 (832, .laload, 1) rfl
theorem d_L_law_833 : decode b_L_law 833 = .ok (.iload 6, 2) := dd_L_law 497 (833, .iload 6, 2) rfl
theorem d_L_law_835 : decode b_L_law 835 = .ok (.i2l, 1) := dd_L_law 498 (835, .i2l, 1) rfl
theorem d_L_law_836 : decode b_L_law 836 = .ok (.lcmp, 1) := dd_L_law 499 (836, .lcmp, 1) rfl
theorem d_L_law_837 : decode b_L_law 837 = .ok (.ifCond .eq 5, 3) := dd_L_law 500 (837, .ifCond .eq 5, 3) rfl
theorem d_L_law_840 : decode b_L_law 840 = .ok (.iconst 0, 1) := dd_L_law 501 (840, .iconst 0, 1) rfl
theorem d_L_law_841 : decode b_L_law 841 = .ok (.ireturn, 1) := dd_L_law 502 (841, .ireturn, 1) rfl
theorem d_L_law_842 : decode b_L_law 842 = .ok (.goto 132, 3) := dd_L_law 503 (842, .goto 132, 3) rfl
theorem d_L_law_845 : decode b_L_law 845 = .ok (.aload_n 1, 1) := dd_L_law 504 (845, .aload_n 1, 1) rfl
theorem d_L_law_846 : decode b_L_law 846 = .ok (.aload_n 0, 1) := dd_L_law 505 (846, .aload_n 0, 1) rfl
theorem d_L_law_847 : decode b_L_law 847 = .ok (.iload 4, 2) := dd_L_law 506 (847, .iload 4, 2) rfl
theorem d_L_law_849 : decode b_L_law 849 = .ok (.iconst 1, 1) := dd_L_law 507 (849, .iconst 1, 1) rfl
theorem d_L_law_850 : decode b_L_law 850 = .ok (.iadd, 1) := dd_L_law 508 (850, .iadd, 1) rfl
theorem d_L_law_851 : decode b_L_law 851 = .ok (.iaload, 1) := dd_L_law 509 (851, .iaload, 1) rfl
theorem d_L_law_852 : decode b_L_law 852 = .ok (.aload_n 0, 1) := dd_L_law 510 (852, .aload_n 0, 1) rfl
theorem d_L_law_853 : decode b_L_law 853 = .ok (.iload 4, 2) := dd_L_law 511 (853, .iload 4, 2) rfl
theorem d_L_law_855 : decode b_L_law 855 = .ok (.iconst 2, 1) := dd_L_law 512 (855, .iconst 2, 1) rfl
theorem d_L_law_856 : decode b_L_law 856 = .ok (.iadd, 1) := dd_L_law 513 (856, .iadd, 1) rfl
theorem d_L_law_857 : decode b_L_law 857 = .ok (.iaload, 1) := dd_L_law 514 (857, .iaload, 1) rfl
theorem d_L_law_858 : decode b_L_law 858 = .ok (.aload_n 0, 1) := dd_L_law 515 (858, .aload_n 0, 1) rfl
theorem d_L_law_859 : decode b_L_law 859 = .ok (.iload 4, 2) := dd_L_law 516 (859, .iload 4, 2) rfl
theorem d_L_law_861 : decode b_L_law 861 = .ok (.iconst 3, 1) := dd_L_law 517 (861, .iconst 3, 1) rfl
theorem d_L_law_862 : decode b_L_law 862 = .ok (.iadd, 1) := dd_L_law 518 (862, .iadd, 1) rfl
theorem d_L_law_863 : decode b_L_law 863 = .ok (.iaload, 1) := dd_L_law 519 (863, .iaload, 1) rfl
theorem d_L_law_864 : decode b_L_law 864 = .ok (.aload_n 3, 1) := dd_L_law 520 (864, .aload_n 3, 1) rfl
theorem d_L_law_865 : decode b_L_law 865 = .ok (.invokestatic 114, 3) := dd_L_law 521 (865, .invokestatic 114, 3) rfl
theorem d_L_law_868 : decode b_L_law 868 = .ok (.istore 5, 2) := dd_L_law 522 (868, .istore 5, 2) rfl
theorem d_L_law_870 : decode b_L_law 870 = .ok (.aload_n 2, 1) := dd_L_law 523 (870, .aload_n 2, 1) rfl
theorem d_L_law_871 : decode b_L_law 871 = .ok (.aload_n 0, 1) := dd_L_law 524 (871, .aload_n 0, 1) rfl
theorem d_L_law_872 : decode b_L_law 872 = .ok (.iload 4, 2) := dd_L_law 525 (872, .iload 4, 2) rfl
theorem d_L_law_874 : decode b_L_law 874 = .ok (.iconst 1, 1) := dd_L_law 526 (874, .iconst 1, 1) rfl
theorem d_L_law_875 : decode b_L_law 875 = .ok (.iadd, 1) := dd_L_law 527 (875, .iadd, 1) rfl
theorem d_L_law_876 : decode b_L_law 876 = .ok (.iaload, 1) := dd_L_law 528 (876, .iaload, 1) rfl
theorem d_L_law_877 : decode b_L_law 877 = .ok (.aload_n 0, 1) := dd_L_law 529 (877, .aload_n 0, 1) rfl
theorem d_L_law_878 : decode b_L_law 878 = .ok (.iload 4, 2) := dd_L_law 530 (878, .iload 4, 2) rfl
theorem d_L_law_880 : decode b_L_law 880 = .ok (.iconst 2, 1) := dd_L_law 531 (880, .iconst 2, 1) rfl
theorem d_L_law_881 : decode b_L_law 881 = .ok (.iadd, 1) := dd_L_law 532 (881, .iadd, 1) rfl
theorem d_L_law_882 : decode b_L_law 882 = .ok (.iaload, 1) := dd_L_law 533 (882, .iaload, 1) rfl
theorem d_L_law_883 : decode b_L_law 883 = .ok (.aload_n 0, 1) := dd_L_law 534 (883, .aload_n 0, 1) rfl
theorem d_L_law_884 : decode b_L_law 884 = .ok (.iload 4, 2) := dd_L_law 535 (884, .iload 4, 2) rfl
theorem d_L_law_886 : decode b_L_law 886 = .ok (.iconst 3, 1) := dd_L_law 536 (886, .iconst 3, 1) rfl
theorem d_L_law_887 : decode b_L_law 887 = .ok (.iadd, 1) := dd_L_law 537 (887, .iadd, 1) rfl
theorem d_L_law_888 : decode b_L_law 888 = .ok (.iaload, 1) := dd_L_law 538 (888, .iaload, 1) rfl
theorem d_L_law_889 : decode b_L_law 889 = .ok (.invokevirtual 116, 3) := dd_L_law 539 (889, .invokevirtual 116, 3) rfl
theorem d_L_law_892 : decode b_L_law 892 = .ok (.istore 6, 2) := dd_L_law 540 (892, .istore 6, 2) rfl
theorem d_L_law_894 : decode b_L_law 894 = .ok (.aload_n 2, 1) := dd_L_law 541 (894, .aload_n 2, 1) rfl
theorem d_L_law_895 : decode b_L_law 895 = .ok (.invokevirtual 72, 3) := dd_L_law 542 (895, .invokevirtual 72, 3) rfl
theorem d_L_law_898 : decode b_L_law 898 = .ok (.iload 5, 2) := dd_L_law 543 (898, .iload 5, 2) rfl
theorem d_L_law_900 : decode b_L_law 900 = .ok (.if_icmp .eq 5, 3) := dd_L_law 544 (900, .if_icmp .eq 5, 3) rfl
theorem d_L_law_903 : decode b_L_law 903 = .ok (.iconst 0, 1) := dd_L_law 545 (903, .iconst 0, 1) rfl
theorem d_L_law_904 : decode b_L_law 904 = .ok (.ireturn, 1) := dd_L_law 546 (904, .ireturn, 1) rfl
theorem d_L_law_905 : decode b_L_law 905 = .ok (.iload 5, 2) := dd_L_law 547 (905, .iload 5, 2) rfl
theorem d_L_law_907 : decode b_L_law 907 = .ok (.ifCond .ne 15, 3) := dd_L_law 548 (907, .ifCond .ne 15, 3) rfl
theorem d_L_law_910 : decode b_L_law 910 = .ok (.aload_n 3, 1) := dd_L_law 549 (910, .aload_n 3, 1) rfl
theorem d_L_law_911 : decode b_L_law 911 = .ok (.iconst 0, 1) := dd_L_law 550 (911, .iconst 0, 1) rfl
theorem d_L_law_912 : decode b_L_law 912 = .ok (.laload, 1) := dd_L_law 551 (912, .laload, 1) rfl
theorem d_L_law_913 : decode b_L_law 913 = .ok (.iload 6, 2) := dd_L_law 552 (913, .iload 6, 2) rfl
theorem d_L_law_915 : decode b_L_law 915 = .ok (.i2l, 1) := dd_L_law 553 (915, .i2l, 1) rfl
theorem d_L_law_916 : decode b_L_law 916 = .ok (.lcmp, 1) := dd_L_law 554 (916, .lcmp, 1) rfl
theorem d_L_law_917 : decode b_L_law 917 = .ok (.ifCond .eq 5, 3) := dd_L_law 555 (917, .ifCond .eq 5, 3) rfl
theorem d_L_law_920 : decode b_L_law 920 = .ok (.iconst 0, 1) := dd_L_law 556 (920, .iconst 0, 1) rfl
theorem d_L_law_921 : decode b_L_law 921 = .ok (.ireturn, 1) := dd_L_law 557 (921, .ireturn, 1) rfl
theorem d_L_law_922 : decode b_L_law 922 = .ok (.goto 52, 3) := dd_L_law 558 (922, .goto 52, 3) rfl
theorem d_L_law_925 : decode b_L_law 925 = .ok (.aload_n 1, 1) := dd_L_law 559 (925, .aload_n 1, 1) rfl
theorem d_L_law_926 : decode b_L_law 926 = .ok (.invokevirtual 117, 3) := dd_L_law 560 (926, .invokevirtual 117, 3) rfl
theorem d_L_law_929 : decode b_L_law 929 = .ok (.aload_n 2, 1) := dd_L_law 561 (929, .aload_n 2, 1) rfl
theorem d_L_law_930 : decode b_L_law 930 = .ok (.invokevirtual 120, 3) := dd_L_law 562 (930, .invokevirtual 120, 3) rfl
theorem d_L_law_933 : decode b_L_law 933 = .ok (.if_icmp .eq 41, 3) := dd_L_law 563 (933, .if_icmp .eq 41, 3) rfl
theorem d_L_law_936 : decode b_L_law 936 = .ok (.iconst 0, 1) := dd_L_law 564 (936, .iconst 0, 1) rfl
theorem d_L_law_937 : decode b_L_law 937 = .ok (.ireturn, 1) := dd_L_law 565 (937, .ireturn, 1) rfl
theorem d_L_law_938 : decode b_L_law 938 = .ok (.aload_n 1, 1) := dd_L_law 566 (938, .aload_n 1, 1) rfl
theorem d_L_law_939 : decode b_L_law 939 = .ok (.aload_n 0, 1) := dd_L_law 567 (939, .aload_n 0, 1) rfl
theorem d_L_law_940 : decode b_L_law 940 = .ok (.iload 4, 2) := dd_L_law 568 (940, .iload 4, 2) rfl
theorem d_L_law_942 : decode b_L_law 942 = .ok (.iconst 1, 1) := dd_L_law 569 (942, .iconst 1, 1) rfl
theorem d_L_law_943 : decode b_L_law 943 = .ok (.iadd, 1) := dd_L_law 570 (943, .iadd, 1) rfl
theorem d_L_law_944 : decode b_L_law 944 = .ok (.iaload, 1) := dd_L_law 571 (944, .iaload, 1) rfl
theorem d_L_law_945 : decode b_L_law 945 = .ok (.invokevirtual 121, 3) := dd_L_law 572 (945, .invokevirtual 121, 3) rfl
theorem d_L_law_948 : decode b_L_law 948 = .ok (.aload_n 2, 1) := dd_L_law 573 (948, .aload_n 2, 1) rfl
theorem d_L_law_949 : decode b_L_law 949 = .ok (.aload_n 0, 1) := dd_L_law 574 (949, .aload_n 0, 1) rfl
theorem d_L_law_950 : decode b_L_law 950 = .ok (.iload 4, 2) := dd_L_law 575 (950, .iload 4, 2) rfl
theorem d_L_law_952 : decode b_L_law 952 = .ok (.iconst 1, 1) := dd_L_law 576 (952, .iconst 1, 1) rfl
theorem d_L_law_953 : decode b_L_law 953 = .ok (.iadd, 1) := dd_L_law 577 (953, .iadd, 1) rfl
theorem d_L_law_954 : decode b_L_law 954 = .ok (.iaload, 1) := dd_L_law 578 (954, .iaload, 1) rfl
theorem d_L_law_955 : decode b_L_law 955 = .ok (.invokevirtual 124, 3) := dd_L_law 579 (955, .invokevirtual 124, 3) rfl
theorem d_L_law_958 : decode b_L_law 958 = .ok (.if_icmp .eq 16, 3) := dd_L_law 580 (958, .if_icmp .eq 16, 3) rfl
theorem d_L_law_961 : decode b_L_law 961 = .ok (.iconst 0, 1) := dd_L_law 581 (961, .iconst 0, 1) rfl
theorem d_L_law_962 : decode b_L_law 962 = .ok (.ireturn, 1) := dd_L_law 582 (962, .ireturn, 1) rfl
theorem d_L_law_963 : decode b_L_law 963 = .ok (.aload_n 1, 1) := dd_L_law 583 (963, .aload_n 1, 1) rfl
theorem d_L_law_964 : decode b_L_law 964 = .ok (.invokevirtual 125, 3) := dd_L_law 584 (964, .invokevirtual 125, 3) rfl
theorem d_L_law_967 : decode b_L_law 967 = .ok (.aload_n 2, 1) := dd_L_law 585 (967, .aload_n 2, 1) rfl
theorem d_L_law_968 : decode b_L_law 968 = .ok (.invokevirtual 128, 3) := dd_L_law 586 (968, .invokevirtual 128, 3) rfl
theorem d_L_law_971 : decode b_L_law 971 = .ok (.goto 3, 3) := dd_L_law 587 (971, .goto 3, 3) rfl
theorem d_L_law_974 : decode b_L_law 974 = .ok (.iinc 4 6, 3) := dd_L_law 588 (974, .iinc 4 6, 3) rfl
theorem d_L_law_977 : decode b_L_law 977 = .ok (.goto (-944), 3) := dd_L_law 589 (977, .goto (-944), 3) rfl
theorem d_L_law_980 : decode b_L_law 980 = .ok (.iconst 1, 1) := dd_L_law 590 (980, .iconst 1, 1) rfl
theorem d_L_law_981 : decode b_L_law 981 = .ok (.ireturn, 1) := dd_L_law 591 (981, .ireturn, 1) rfl
theorem cw_L_68 {R : Room} {s : State} {args : Array Value} (hts : ∀ w ∈ BIG, w.before args s = true) (hR : rm_L_put.frames + 1 ≤ R.frames ∧ 8 + (6 + 11) + rm_L_put.locals ≤ R.locals) : zCS R s args "FractalMapsLaw" 68 y_L_put b_L_put 6 (some .int) [(0, 12, 15, 13), (0, 12, 19, 15)] w_L_put rm_L_put 1 6 5 := z_cwL 5 hts k_399 (hts _ k_397) (hts _ k_398) (hts _ k_36) rfl rfl (by decide +kernel) hR
theorem cw_L_79 {R : Room} {s : State} {args : Array Value} (hts : ∀ w ∈ BIG, w.before args s = true) (hR : rm_L_encode.frames + 1 ≤ R.frames ∧ 8 + (5 + 11) + rm_L_encode.locals ≤ R.locals) : zCS R s args "FractalMapsLaw" 79 y_L_encode b_L_encode 5 (some .int) [(0, 10, 13, 15)] w_L_encode rm_L_encode 1 6 4 := z_cwL 4 hts k_494 (hts _ k_492) (hts _ k_493) (hts _ k_36) rfl rfl (by decide +kernel) hR
theorem cw_L_83 {R : Room} {s : State} {args : Array Value} (hts : ∀ w ∈ BIG, w.before args s = true) (hR : rm_L_block.frames + 1 ≤ R.frames ∧ 8 + (5 + 11) + rm_L_block.locals ≤ R.locals) : zCS R s args "FractalMapsLaw" 83 y_L_block b_L_block 5 (some .int) [(0, 10, 13, 13), (0, 10, 17, 15)] w_L_block rm_L_block 1 6 4 := z_cwL 4 hts k_619 (hts _ k_617) (hts _ k_618) (hts _ k_36) rfl rfl (by decide +kernel) hR
theorem cw_L_86 {R : Room} {s : State} {args : Array Value} (hts : ∀ w ∈ BIG, w.before args s = true) (hR : rm_L_byteAt.frames + 1 ≤ R.frames ∧ 8 + (4 + 11) + rm_L_byteAt.locals ≤ R.locals) : zCS R s args "FractalMapsLaw" 86 y_L_byteAt b_L_byteAt 4 (some .int) [(0, 9, 12, 13)] w_L_byteAt rm_L_byteAt 1 6 3 := z_cwL 3 hts k_632 (hts _ k_630) (hts _ k_631) (hts _ k_36) rfl rfl (by decide +kernel) hR
theorem cw_L_90 {R : Room} {s : State} {args : Array Value} (hts : ∀ w ∈ BIG, w.before args s = true) (hR : rm_L_feed.frames + 1 ≤ R.frames ∧ 8 + (4 + 11) + rm_L_feed.locals ≤ R.locals) : zCS R s args "FractalMapsLaw" 90 y_L_feed b_L_feed 4 (some .int) [(0, 9, 12, 15), (0, 9, 15, 31)] w_L_feed rm_L_feed 1 6 3 := z_cwL 3 hts k_641 (hts _ k_639) (hts _ k_640) (hts _ k_36) rfl rfl (by decide +kernel) hR
theorem cw_L_93 {R : Room} {s : State} {args : Array Value} (hts : ∀ w ∈ BIG, w.before args s = true) (hR : rm_L_pass.frames + 1 ≤ R.frames ∧ 8 + (3 + 11) + rm_L_pass.locals ≤ R.locals) : zCS R s args "FractalMapsLaw" 93 y_L_pass b_L_pass 3 (some .int) [(0, 8, 11, 31)] w_L_pass rm_L_pass 1 6 2 := z_cwL 2 hts k_666 (hts _ k_664) (hts _ k_665) (hts _ k_36) rfl rfl (by decide +kernel) hR
theorem cw_L_101 {R : Room} {s : State} {args : Array Value} (hts : ∀ w ∈ BIG, w.before args s = true) (hR : rm_L_decode.frames + 1 ≤ R.frames ∧ 8 + (5 + 11) + rm_L_decode.locals ≤ R.locals) : zCS R s args "FractalMapsLaw" 101 y_L_decode b_L_decode 5 (some .int) [(0, 10, 13, 15), (0, 10, 17, 40)] w_L_decode rm_L_decode 1 6 4 := z_cwL 4 hts k_674 (hts _ k_672) (hts _ k_673) (hts _ k_36) rfl rfl (by decide +kernel) hR
theorem cw_L_104 {R : Room} {s : State} {args : Array Value} (hts : ∀ w ∈ BIG, w.before args s = true) (hR : rm_L_at.frames + 1 ≤ R.frames ∧ 8 + (5 + 11) + rm_L_at.locals ≤ R.locals) : zCS R s args "FractalMapsLaw" 104 y_L_at b_L_at 5 (some .int) [(0, 10, 13, 13)] w_L_at rm_L_at 1 6 4 := z_cwL 4 hts k_715 (hts _ k_713) (hts _ k_714) (hts _ k_36) rfl rfl (by decide +kernel) hR
theorem cw_L_107 {R : Room} {s : State} {args : Array Value} (hts : ∀ w ∈ BIG, w.before args s = true) (hR : rm_L_missed.frames + 1 ≤ R.frames ∧ 8 + (3 + 11) + rm_L_missed.locals ≤ R.locals) : zCS R s args "FractalMapsLaw" 107 y_L_missed b_L_missed 3 (some .int) [(0, 7, 10, 40)] w_L_missed rm_L_missed 1 6 2 := z_cwL 2 hts k_723 (hts _ k_721) (hts _ k_722) (hts _ k_36) rfl rfl (by decide +kernel) hR
theorem cw_L_110 {R : Room} {s : State} {args : Array Value} (hts : ∀ w ∈ BIG, w.before args s = true) (hR : rm_L_domain.frames + 1 ≤ R.frames ∧ 8 + (8 + 11) + rm_L_domain.locals ≤ R.locals) : zCS R s args "FractalMapsLaw" 110 y_L_domain b_L_domain 8 (some .int) [(0, 16, 19, 15), (0, 16, 23, 13)] w_L_domain rm_L_domain 1 6 7 := z_cwL 7 hts k_731 (hts _ k_729) (hts _ k_730) (hts _ k_36) rfl rfl (by decide +kernel) hR
theorem cw_L_114 {R : Room} {s : State} {args : Array Value} (hts : ∀ w ∈ BIG, w.before args s = true) (hR : rm_L_kind.frames + 1 ≤ R.frames ∧ 8 + (6 + 11) + rm_L_kind.locals ≤ R.locals) : zCS R s args "FractalMapsLaw" 114 y_L_kind b_L_kind 6 (some .int) [(0, 12, 15, 15), (0, 12, 19, 13)] w_L_kind rm_L_kind 1 6 5 := z_cwL 5 hts k_742 (hts _ k_740) (hts _ k_741) (hts _ k_36) rfl rfl (by decide +kernel) hR
