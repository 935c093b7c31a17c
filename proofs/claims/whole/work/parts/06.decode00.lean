def tb_F_init : List (Nat × Instr × Nat) := [(0, .aload_n 0, 1), (1, .invokespecial 1, 3), (4, .aload_n 0, 1), (5, .iconst 4, 1), (6, .iconst 0, 1), (7, .iload_n 1, 1), (8, .iconst 3, 1), (9, .invokestatic 7, 3), (12, .invokestatic 13, 3), (15, .ishl, 1), (16, .putfield 16, 3), (19, .aload_n 0, 1), (20, .new 22, 3), (23, .dup, 1), (24, .aload_n 0, 1), (25, .getfield 16, 3), (28, .aload_n 0, 1), (29, .getfield 16, 3), (32, .invokespecial 24, 3), (35, .putfield 27, 3), (38, .aload_n 0, 1), (39, .new 22, 3), (42, .dup, 1), (43, .iconst 2, 1), (44, .aload_n 0, 1), (45, .getfield 16, 3), (48, .imul, 1), (49, .iconst 0, 1), (50, .invokespecial 24, 3), (53, .putfield 31, 3), (56, .aload_n 0, 1), (57, .new 22, 3), (60, .dup, 1), (61, .aload_n 0, 1), (62, .getfield 16, 3), (65, .iconst 0, 1), (66, .invokespecial 24, 3), (69, .putfield 34, 3), (72, .aload_n 0, 1), (73, .new 37, 3), (76, .dup, 1), (77, .aload_n 0, 1), (78, .getfield 34, 3), (81, .invokespecial 39, 3), (84, .putfield 42, 3), (87, .aload_n 0, 1), (88, .new 46, 3), (91, .dup, 1), (92, .aload_n 0, 1), (93, .getfield 27, 3), (96, .aload_n 0, 1), (97, .getfield 34, 3), (100, .aload_n 0, 1), (101, .getfield 42, 3), (104, .invokespecial 48, 3), (107, .putfield 51, 3), (110, .aload_n 0, 1), (111, .new 55, 3), (114, .dup, 1), (115, .aload_n 0, 1), (116, .getfield 16, 3), (119, .aload_n 0, 1), (120, .getfield 16, 3), (123, .imul, 1), (124, .iconst 4, 1), (125, .idiv, 1), (126, .invokespecial 57, 3), (129, .putfield 60, 3), (132, .aload_n 0, 1), (133, .new 64, 3), (136, .dup, 1), (137, .invokespecial 66, 3), (140, .putfield 67, 3), (143, .aload_n 0, 1), (144, .new 71, 3), (147, .dup, 1), (148, .aload_n 0, 1), (149, .getfield 16, 3), (152, .aload_n 0, 1), (153, .getfield 16, 3), (156, .imul, 1), (157, .invokespecial 73, 3), (160, .putfield 74, 3), (163, .aload_n 0, 1), (164, .new 71, 3), (167, .dup, 1), (168, .sipush 2000, 3), (171, .invokespecial 73, 3), (174, .putfield 78, 3), (177, .return_, 1)]
theorem dd_F_init : ∀ (i : Nat) (q : Nat × Instr × Nat), tb_F_init[i]? = some q → decode b_F_init q.1 = .ok (q.2.1, q.2.2) := z_tab (by decide +kernel)
theorem d_F_init_0 : decode b_F_init 0 = .ok (.aload_n 0, 1) := dd_F_init 0 (0, .aload_n 0, 1) rfl
theorem d_F_init_1 : decode b_F_init 1 = .ok (.invokespecial 1, 3) := dd_F_init 1 (1, .invokespecial 1, 3) rfl
theorem d_F_init_4 : decode b_F_init 4 = .ok (.aload_n 0, 1) := dd_F_init 2 (4, .aload_n 0, 1) rfl
theorem d_F_init_5 : decode b_F_init 5 = .ok (.iconst 4, 1) := dd_F_init 3 (5, .iconst 4, 1) rfl
theorem d_F_init_6 : decode b_F_init 6 = .ok (.iconst 0, 1) := dd_F_init 4 (6, .iconst 0, 1) rfl
theorem d_F_init_7 : decode b_F_init 7 = .ok (.iload_n 1, 1) := dd_F_init 5 (7, .iload_n 1, 1) rfl
theorem d_F_init_8 : decode b_F_init 8 = .ok (.iconst 3, 1) := dd_F_init 6 (8, .iconst 3, 1) rfl
theorem d_F_init_9 : decode b_F_init 9 = .ok (.invokestatic 7, 3) := dd_F_init 7 (9, .invokestatic 7, 3) rfl
theorem d_F_init_12 : decode b_F_init 12 = .ok (.invokestatic 13, 3) := dd_F_init 8 (12, .invokestatic 13, 3) rfl
theorem d_F_init_15 : decode b_F_init 15 = .ok (.ishl, 1) := dd_F_init 9 (15, .ishl, 1) rfl
theorem d_F_init_16 : decode b_F_init 16 = .ok (.putfield 16, 3) := dd_F_init 10 (16, .putfield 16, 3) rfl
theorem d_F_init_19 : decode b_F_init 19 = .ok (.aload_n 0, 1) := dd_F_init 11 (19, .aload_n 0, 1) rfl
theorem d_F_init_20 : decode b_F_init 20 = .ok (.new 22, 3) := dd_F_init 12 (20, .new 22, 3) rfl
theorem d_F_init_23 : decode b_F_init 23 = .ok (.dup, 1) := dd_F_init 13 (23, .dup, 1) rfl
theorem d_F_init_24 : decode b_F_init 24 = .ok (.aload_n 0, 1) := dd_F_init 14 (24, .aload_n 0, 1) rfl
theorem d_F_init_25 : decode b_F_init 25 = .ok (.getfield 16, 3) := dd_F_init 15 (25, .getfield 16, 3) rfl
theorem d_F_init_28 : decode b_F_init 28 = .ok (.aload_n 0, 1) := dd_F_init 16 (28, .aload_n 0, 1) rfl
theorem d_F_init_29 : decode b_F_init 29 = .ok (.getfield 16, 3) := dd_F_init 17 (29, .getfield 16, 3) rfl
theorem d_F_init_32 : decode b_F_init 32 = .ok (.invokespecial 24, 3) := dd_F_init 18 (32, .invokespecial 24, 3) rfl
theorem d_F_init_35 : decode b_F_init 35 = .ok (.putfield 27, 3) := dd_F_init 19 (35, .putfield 27, 3) rfl
theorem d_F_init_38 : decode b_F_init 38 = .ok (.aload_n 0, 1) := dd_F_init 20 (38, .aload_n 0, 1) rfl
theorem d_F_init_39 : decode b_F_init 39 = .ok (.new 22, 3) := dd_F_init 21 (39, .new 22, 3) rfl
theorem d_F_init_42 : decode b_F_init 42 = .ok (.dup, 1) := dd_F_init 22 (42, .dup, 1) rfl
theorem d_F_init_43 : decode b_F_init 43 = .ok (.iconst 2, 1) := dd_F_init 23 (43, .iconst 2, 1) rfl
theorem d_F_init_44 : decode b_F_init 44 = .ok (.aload_n 0, 1) := dd_F_init 24 (44, .aload_n 0, 1) rfl
theorem d_F_init_45 : decode b_F_init 45 = .ok (.getfield 16, 3) := dd_F_init 25 (45, .getfield 16, 3) rfl
theorem d_F_init_48 : decode b_F_init 48 = .ok (.imul, 1) := dd_F_init 26 (48, .imul, 1) rfl
theorem d_F_init_49 : decode b_F_init 49 = .ok (.iconst 0, 1) := dd_F_init 27 (49, .iconst 0, 1) rfl
theorem d_F_init_50 : decode b_F_init 50 = .ok (.invokespecial 24, 3) := dd_F_init 28 (50, .invokespecial 24, 3) rfl
theorem d_F_init_53 : decode b_F_init 53 = .ok (.putfield 31, 3) := dd_F_init 29 (53, .putfield 31, 3) rfl
theorem d_F_init_56 : decode b_F_init 56 = .ok (.aload_n 0, 1) := dd_F_init 30 (56, .aload_n 0, 1) rfl
theorem d_F_init_57 : decode b_F_init 57 = .ok (.new 22, 3) := dd_F_init 31 (57, .new 22, 3) rfl
theorem d_F_init_60 : decode b_F_init 60 = .ok (.dup, 1) := dd_F_init 32 (60, .dup, 1) rfl
theorem d_F_init_61 : decode b_F_init 61 = .ok (.aload_n 0, 1) := dd_F_init 33 (61, .aload_n 0, 1) rfl
theorem d_F_init_62 : decode b_F_init 62 = .ok (.getfield 16, 3) := dd_F_init 34 (62, .getfield 16, 3) rfl
theorem d_F_init_65 : decode b_F_init 65 = .ok (.iconst 0, 1) := dd_F_init 35 (65, .iconst 0, 1) rfl
theorem d_F_init_66 : decode b_F_init 66 = .ok (.invokespecial 24, 3) := dd_F_init 36 (66, .invokespecial 24, 3) rfl
theorem d_F_init_69 : decode b_F_init 69 = .ok (.putfield 34, 3) := dd_F_init 37 (69, .putfield 34, 3) rfl
theorem d_F_init_72 : decode b_F_init 72 = .ok (.aload_n 0, 1) := dd_F_init 38 (72, .aload_n 0, 1) rfl
theorem d_F_init_73 : decode b_F_init 73 = .ok (.new 37, 3) := dd_F_init 39 (73, .new 37, 3) rfl
theorem d_F_init_76 : decode b_F_init 76 = .ok (.dup, 1) := dd_F_init 40 (76, .dup, 1) rfl
theorem d_F_init_77 : decode b_F_init 77 = .ok (.aload_n 0, 1) := dd_F_init 41 (77, .aload_n 0, 1) rfl
theorem d_F_init_78 : decode b_F_init 78 = .ok (.getfield 34, 3) := dd_F_init 42 (78, .getfield 34, 3) rfl
theorem d_F_init_81 : decode b_F_init 81 = .ok (.invokespecial 39, 3) := dd_F_init 43 (81, .invokespecial 39, 3) rfl
theorem d_F_init_84 : decode b_F_init 84 = .ok (.putfield 42, 3) := dd_F_init 44 (84, .putfield 42, 3) rfl
theorem d_F_init_87 : decode b_F_init 87 = .ok (.aload_n 0, 1) := dd_F_init 45 (87, .aload_n 0, 1) rfl
theorem d_F_init_88 : decode b_F_init 88 = .ok (.new 46, 3) := dd_F_init 46 (88, .new 46, 3) rfl
theorem d_F_init_91 : decode b_F_init 91 = .ok (.dup, 1) := dd_F_init 47 (91, .dup, 1) rfl
theorem d_F_init_92 : decode b_F_init 92 = .ok (.aload_n 0, 1) := dd_F_init 48 (92, .aload_n 0, 1) rfl
theorem d_F_init_93 : decode b_F_init 93 = .ok (.getfield 27, 3) := dd_F_init 49 (93, .getfield 27, 3) rfl
theorem d_F_init_96 : decode b_F_init 96 = .ok (.aload_n 0, 1) := dd_F_init 50 (96, .aload_n 0, 1) rfl
theorem d_F_init_97 : decode b_F_init 97 = .ok (.getfield 34, 3) := dd_F_init 51 (97, .getfield 34, 3) rfl
theorem d_F_init_100 : decode b_F_init 100 = .ok (.aload_n 0, 1) := dd_F_init 52 (100, .aload_n 0, 1) rfl
theorem d_F_init_101 : decode b_F_init 101 = .ok (.getfield 42, 3) := dd_F_init 53 (101, .getfield 42, 3) rfl
theorem d_F_init_104 : decode b_F_init 104 = .ok (.invokespecial 48, 3) := dd_F_init 54 (104, .invokespecial 48, 3) rfl
theorem d_F_init_107 : decode b_F_init 107 = .ok (.putfield 51, 3) := dd_F_init 55 (107, .putfield 51, 3) rfl
theorem d_F_init_110 : decode b_F_init 110 = .ok (.aload_n 0, 1) := dd_F_init 56 (110, .aload_n 0, 1) rfl
theorem d_F_init_111 : decode b_F_init 111 = .ok (.new 55, 3) := dd_F_init 57 (111, .new 55, 3) rfl
theorem d_F_init_114 : decode b_F_init 114 = .ok (.dup, 1) := dd_F_init 58 (114, .dup, 1) rfl
theorem d_F_init_115 : decode b_F_init 115 = .ok (.aload_n 0, 1) := dd_F_init 59 (115, .aload_n 0, 1) rfl
theorem d_F_init_116 : decode b_F_init 116 = .ok (.getfield 16, 3) := dd_F_init 60 (116, .getfield 16, 3) rfl
theorem d_F_init_119 : decode b_F_init 119 = .ok (.aload_n 0, 1) := dd_F_init 61 (119, .aload_n 0, 1) rfl
theorem d_F_init_120 : decode b_F_init 120 = .ok (.getfield 16, 3) := dd_F_init 62 (120, .getfield 16, 3) rfl
theorem d_F_init_123 : decode b_F_init 123 = .ok (.imul, 1) := dd_F_init 63 (123, .imul, 1) rfl
theorem d_F_init_124 : decode b_F_init 124 = .ok (.iconst 4, 1) := dd_F_init 64 (124, .iconst 4, 1) rfl
theorem d_F_init_125 : decode b_F_init 125 = .ok (.idiv, 1) := dd_F_init 65 (125, .idiv, 1) rfl
theorem d_F_init_126 : decode b_F_init 126 = .ok (.invokespecial 57, 3) := dd_F_init 66 (126, .invokespecial 57, 3) rfl
theorem d_F_init_129 : decode b_F_init 129 = .ok (.putfield 60, 3) := dd_F_init 67 (129, .putfield 60, 3) rfl
theorem d_F_init_132 : decode b_F_init 132 = .ok (.aload_n 0, 1) := dd_F_init 68 (132, .aload_n 0, 1) rfl
theorem d_F_init_133 : decode b_F_init 133 = .ok (.new 64, 3) := dd_F_init 69 (133, .new 64, 3) rfl
theorem d_F_init_136 : decode b_F_init 136 = .ok (.dup, 1) := dd_F_init 70 (136, .dup, 1) rfl
theorem d_F_init_137 : decode b_F_init 137 = .ok (.invokespecial 66, 3) := dd_F_init 71 (137, .invokespecial 66, 3) rfl
theorem d_F_init_140 : decode b_F_init 140 = .ok (.putfield 67, 3) := dd_F_init 72 (140, .putfield 67, 3) rfl
theorem d_F_init_143 : decode b_F_init 143 = .ok (.aload_n 0, 1) := dd_F_init 73 (143, .aload_n 0, 1) rfl
theorem d_F_init_144 : decode b_F_init 144 = .ok (.new 71, 3) := dd_F_init 74 (144, .new 71, 3) rfl
theorem d_F_init_147 : decode b_F_init 147 = .ok (.dup, 1) := dd_F_init 75 (147, .dup, 1) rfl
theorem d_F_init_148 : decode b_F_init 148 = .ok (.aload_n 0, 1) := dd_F_init 76 (148, .aload_n 0, 1) rfl
theorem d_F_init_149 : decode b_F_init 149 = .ok (.getfield 16, 3) := dd_F_init 77 (149, .getfield 16, 3) rfl
theorem d_F_init_152 : decode b_F_init 152 = .ok (.aload_n 0, 1) := dd_F_init 78 (152, .aload_n 0, 1) rfl
theorem d_F_init_153 : decode b_F_init 153 = .ok (.getfield 16, 3) := dd_F_init 79 (153, .getfield 16, 3) rfl
theorem d_F_init_156 : decode b_F_init 156 = .ok (.imul, 1) := dd_F_init 80 (156, .imul, 1) rfl
theorem d_F_init_157 : decode b_F_init 157 = .ok (.invokespecial 73, 3) := dd_F_init 81 (157, .invokespecial 73, 3) rfl
theorem d_F_init_160 : decode b_F_init 160 = .ok (.putfield 74, 3) := dd_F_init 82 (160, .putfield 74, 3) rfl
theorem d_F_init_163 : decode b_F_init 163 = .ok (.aload_n 0, 1) := dd_F_init 83 (163, .aload_n 0, 1) rfl
theorem d_F_init_164 : decode b_F_init 164 = .ok (.new 71, 3) := dd_F_init 84 (164, .new 71, 3) rfl
theorem d_F_init_167 : decode b_F_init 167 = .ok (.dup, 1) := dd_F_init 85 (167, .dup, 1) rfl
theorem d_F_init_168 : decode b_F_init 168 = .ok (.sipush 2000, 3) := dd_F_init 86 (168, .sipush 2000, 3) rfl
theorem d_F_init_171 : decode b_F_init 171 = .ok (.invokespecial 73, 3) := dd_F_init 87 (171, .invokespecial 73, 3) rfl
theorem d_F_init_174 : decode b_F_init 174 = .ok (.putfield 78, 3) := dd_F_init 88 (174, .putfield 78, 3) rfl
theorem d_F_init_177 : decode b_F_init 177 = .ok (.return_, 1) := dd_F_init 89 (177, .return_, 1) rfl
def tb_F_put : List (Nat × Instr × Nat) := [(0, .aload_n 0, 1), (1, .getfield 27, 3), (4, .iload_n 1, 1), (5, .iload_n 2, 1), (6, .invokevirtual 81, 3), (9, .ifCond .ne 13, 3), (12, .new 85, 3), (15, .dup, 1), (16, .ldc 87, 2), (18, .invokespecial 89, 3), (21, .athrow, 1), (22, .iload_n 3, 1), (23, .ifCond .lt 10, 3), (26, .iload_n 3, 1), (27, .sipush 255, 3), (30, .if_icmp .le 13, 3), (33, .new 92, 3), (36, .dup, 1), (37, .ldc 94, 2), (39, .invokespecial 96, 3), (42, .athrow, 1), (43, .aload_n 0, 1), (44, .getfield 27, 3), (47, .iload_n 1, 1), (48, .iload_n 2, 1), (49, .invokevirtual 97, 3), (52, .istore 4, 2), (54, .aload_n 0, 1), (55, .getfield 27, 3), (58, .iload_n 1, 1), (59, .iload_n 2, 1), (60, .iload_n 3, 1), (61, .invokevirtual 100, 3), (64, .iload 4, 2), (66, .ireturn, 1)]
theorem dd_F_put : ∀ (i : Nat) (q : Nat × Instr × Nat), tb_F_put[i]? = some q → decode b_F_put q.1 = .ok (q.2.1, q.2.2) := z_tab (by decide +kernel)
theorem d_F_put_0 : decode b_F_put 0 = .ok (.aload_n 0, 1) := dd_F_put 0 (0, .aload_n 0, 1) rfl
theorem d_F_put_1 : decode b_F_put 1 = .ok (.getfield 27, 3) := dd_F_put 1 (1, .getfield 27, 3) rfl
theorem d_F_put_4 : decode b_F_put 4 = .ok (.iload_n 1, 1) := dd_F_put 2 (4, .iload_n 1, 1) rfl
theorem d_F_put_5 : decode b_F_put 5 = .ok (.iload_n 2, 1) := dd_F_put 3 (5, .iload_n 2, 1) rfl
theorem d_F_put_6 : decode b_F_put 6 = .ok (.invokevirtual 81, 3) := dd_F_put 4 (6, .invokevirtual 81, 3) rfl
theorem d_F_put_9 : decode b_F_put 9 = .ok (.ifCond .ne 13, 3) := dd_F_put 5 (9, .ifCond .ne 13, 3) rfl
theorem d_F_put_12 : decode b_F_put 12 = .ok (.new 85, 3) := dd_F_put 6 (12, .new 85, 3) rfl
theorem d_F_put_15 : decode b_F_put 15 = .ok (.dup, 1) := dd_F_put 7 (15, .dup, 1) rfl
theorem d_F_put_16 : decode b_F_put 16 = .ok (.ldc 87, 2) := dd_F_put 8 (16, .ldc 87, 2) rfl
theorem d_F_put_18 : decode b_F_put 18 = .ok (.invokespecial 89, 3) := dd_F_put 9 (18, .invokespecial 89, 3) rfl
theorem d_F_put_21 : decode b_F_put 21 = .ok (.athrow, 1) := dd_F_put 10 (21, .athrow, 1) rfl
theorem d_F_put_22 : decode b_F_put 22 = .ok (.iload_n 3, 1) := dd_F_put 11 (22, .iload_n 3, 1) rfl
theorem d_F_put_23 : decode b_F_put 23 = .ok (.ifCond .lt 10, 3) := dd_F_put 12 (23, .ifCond .lt 10, 3) rfl
theorem d_F_put_26 : decode b_F_put 26 = .ok (.iload_n 3, 1) := dd_F_put 13 (26, .iload_n 3, 1) rfl
theorem d_F_put_27 : decode b_F_put 27 = .ok (.sipush 255, 3) := dd_F_put 14 (27, .sipush 255, 3) rfl
theorem d_F_put_30 : decode b_F_put 30 = .ok (.if_icmp .le 13, 3) := dd_F_put 15 (30, .if_icmp .le 13, 3) rfl
theorem d_F_put_33 : decode b_F_put 33 = .ok (.new 92, 3) := dd_F_put 16 (33, .new 92, 3) rfl
theorem d_F_put_36 : decode b_F_put 36 = .ok (.dup, 1) := dd_F_put 17 (36, .dup, 1) rfl
theorem d_F_put_37 : decode b_F_put 37 = .ok (.ldc 94, 2) := dd_F_put 18 (37, .ldc 94, 2) rfl
theorem d_F_put_39 : decode b_F_put 39 = .ok (.invokespecial 96, 3) := dd_F_put 19 (39, .invokespecial 96, 3) rfl
theorem d_F_put_42 : decode b_F_put 42 = .ok (.athrow, 1) := dd_F_put 20 (42, .athrow, 1) rfl
theorem d_F_put_43 : decode b_F_put 43 = .ok (.aload_n 0, 1) := dd_F_put 21 (43, .aload_n 0, 1) rfl
theorem d_F_put_44 : decode b_F_put 44 = .ok (.getfield 27, 3) := dd_F_put 22 (44, .getfield 27, 3) rfl
theorem d_F_put_47 : decode b_F_put 47 = .ok (.iload_n 1, 1) := dd_F_put 23 (47, .iload_n 1, 1) rfl
theorem d_F_put_48 : decode b_F_put 48 = .ok (.iload_n 2, 1) := dd_F_put 24 (48, .iload_n 2, 1) rfl
theorem d_F_put_49 : decode b_F_put 49 = .ok (.invokevirtual 97, 3) := dd_F_put 25 (49, .invokevirtual 97, 3) rfl
theorem d_F_put_52 : decode b_F_put 52 = .ok (.istore 4, 2) := dd_F_put 26 (52, .istore 4, 2) rfl
theorem d_F_put_54 : decode b_F_put 54 = .ok (.aload_n 0, 1) := dd_F_put 27 (54, .aload_n 0, 1) rfl
theorem d_F_put_55 : decode b_F_put 55 = .ok (.getfield 27, 3) := dd_F_put 28 (55, .getfield 27, 3) rfl
theorem d_F_put_58 : decode b_F_put 58 = .ok (.iload_n 1, 1) := dd_F_put 29 (58, .iload_n 1, 1) rfl
theorem d_F_put_59 : decode b_F_put 59 = .ok (.iload_n 2, 1) := dd_F_put 30 (59, .iload_n 2, 1) rfl
theorem d_F_put_60 : decode b_F_put 60 = .ok (.iload_n 3, 1) := dd_F_put 31 (60, .iload_n 3, 1) rfl
theorem d_F_put_61 : decode b_F_put 61 = .ok (.invokevirtual 100, 3) := dd_F_put 32 (61, .invokevirtual 100, 3) rfl
theorem d_F_put_64 : decode b_F_put 64 = .ok (.iload 4, 2) := dd_F_put 33 (64, .iload 4, 2) rfl
theorem d_F_put_66 : decode b_F_put 66 = .ok (.ireturn, 1) := dd_F_put 34 (66, .ireturn, 1) rfl
def tb_F_paint : List (Nat × Instr × Nat) := [(0, .iconst 0, 1), (1, .istore 4, 2), (3, .iconst 0, 1), (4, .istore 5, 2), (6, .iload 5, 2), (8, .aload_n 0, 1), (9, .getfield 16, 3), (12, .if_icmp .ge 89, 3), (15, .iconst 0, 1), (16, .istore 6, 2), (18, .iload 6, 2), (20, .aload_n 0, 1), (21, .getfield 16, 3), (24, .if_icmp .ge 71, 3), (27, .iload_n 1, 1), (28, .i2l, 1), (29, .iload_n 2, 1), (30, .i2l, 1), (31, .iload 6, 2), (33, .i2l, 1), (34, .lmul, 1), (35, .ladd, 1), (36, .iload_n 3, 1), (37, .i2l, 1), (38, .iload 5, 2), (40, .i2l, 1), (41, .lmul, 1), (42, .ladd, 1), (43, .lstore 7, 2), (45, .lload 7, 2), (47, .lconst 0, 1), (48, .ldc2_w 104, 3), (51, .invokestatic 106, 3), (54, .l2i, 1), (55, .istore 9, 2), (57, .iload 9, 2), (59, .aload_n 0, 1), (60, .getfield 27, 3), (63, .iload 6, 2), (65, .iload 5, 2), (67, .invokevirtual 97, 3), (70, .if_icmp .eq 6, 3), (73, .iinc 4 1, 3), (76, .aload_n 0, 1), (77, .getfield 27, 3), (80, .iload 6, 2), (82, .iload 5, 2), (84, .iload 9, 2), (86, .invokevirtual 100, 3), (89, .iinc 6 1, 3), (92, .goto (-74), 3), (95, .iinc 5 1, 3), (98, .goto (-92), 3), (101, .iload 4, 2), (103, .ireturn, 1)]
theorem dd_F_paint : ∀ (i : Nat) (q : Nat × Instr × Nat), tb_F_paint[i]? = some q → decode b_F_paint q.1 = .ok (q.2.1, q.2.2) := z_tab (by decide +kernel)
theorem d_F_paint_0 : decode b_F_paint 0 = .ok (.iconst 0, 1) := dd_F_paint 0 (0, .iconst 0, 1) rfl
theorem d_F_paint_1 : decode b_F_paint 1 = .ok (.istore 4, 2) := dd_F_paint 1 (1, .istore 4, 2) rfl
theorem d_F_paint_3 : decode b_F_paint 3 = .ok (.iconst 0, 1) := dd_F_paint 2 (3, .iconst 0, 1) rfl
theorem d_F_paint_4 : decode b_F_paint 4 = .ok (.istore 5, 2) := dd_F_paint 3 (4, .istore 5, 2) rfl
theorem d_F_paint_6 : decode b_F_paint 6 = .ok (.iload 5, 2) := dd_F_paint 4 (6, .iload 5, 2) rfl
theorem d_F_paint_8 : decode b_F_paint 8 = .ok (.aload_n 0, 1) := dd_F_paint 5 (8, .aload_n 0, 1) rfl
theorem d_F_paint_9 : decode b_F_paint 9 = .ok (.getfield 16, 3) := dd_F_paint 6 (9, .getfield 16, 3) rfl
theorem d_F_paint_12 : decode b_F_paint 12 = .ok (.if_icmp .ge 89, 3) := dd_F_paint 7 (12, .if_icmp .ge 89, 3) rfl
theorem d_F_paint_15 : decode b_F_paint 15 = .ok (.iconst 0, 1) := dd_F_paint 8 (15, .iconst 0, 1) rfl
theorem d_F_paint_16 : decode b_F_paint 16 = .ok (.istore 6, 2) := dd_F_paint 9 (16, .istore 6, 2) rfl
theorem d_F_paint_18 : decode b_F_paint 18 = .ok (.iload 6, 2) := dd_F_paint 10 (18, .iload 6, 2) rfl
theorem d_F_paint_20 : decode b_F_paint 20 = .ok (.aload_n 0, 1) := dd_F_paint 11 (20, .aload_n 0, 1) rfl
theorem d_F_paint_21 : decode b_F_paint 21 = .ok (.getfield 16, 3) := dd_F_paint 12 (21, .getfield 16, 3) rfl
theorem d_F_paint_24 : decode b_F_paint 24 = .ok (.if_icmp .ge 71, 3) := dd_F_paint 13 (24, .if_icmp .ge 71, 3) rfl
theorem d_F_paint_27 : decode b_F_paint 27 = .ok (.iload_n 1, 1) := dd_F_paint 14 (27, .iload_n 1, 1) rfl
theorem d_F_paint_28 : decode b_F_paint 28 = .ok (.i2l, 1) := dd_F_paint 15 (28, .i2l, 1) rfl
theorem d_F_paint_29 : decode b_F_paint 29 = .ok (.iload_n 2, 1) := dd_F_paint 16 (29, .iload_n 2, 1) rfl
theorem d_F_paint_30 : decode b_F_paint 30 = .ok (.i2l, 1) := dd_F_paint 17 (30, .i2l, 1) rfl
theorem d_F_paint_31 : decode b_F_paint 31 = .ok (.iload 6, 2) := dd_F_paint 18 (31, .iload 6, 2) rfl
theorem d_F_paint_33 : decode b_F_paint 33 = .ok (.i2l, 1) := dd_F_paint 19 (33, .i2l, 1) rfl
theorem d_F_paint_34 : decode b_F_paint 34 = .ok (.lmul, 1) := dd_F_paint 20 (34, .lmul, 1) rfl
theorem d_F_paint_35 : decode b_F_paint 35 = .ok (.ladd, 1) := dd_F_paint 21 (35, .ladd, 1) rfl
theorem d_F_paint_36 : decode b_F_paint 36 = .ok (.iload_n 3, 1) := dd_F_paint 22 (36, .iload_n 3, 1) rfl
theorem d_F_paint_37 : decode b_F_paint 37 = .ok (.i2l, 1) := dd_F_paint 23 (37, .i2l, 1) rfl
theorem d_F_paint_38 : decode b_F_paint 38 = .ok (.iload 5, 2) := dd_F_paint 24 (38, .iload 5, 2) rfl
theorem d_F_paint_40 : decode b_F_paint 40 = .ok (.i2l, 1) := dd_F_paint 25 (40, .i2l, 1) rfl
theorem d_F_paint_41 : decode b_F_paint 41 = .ok (.lmul, 1) := dd_F_paint 26 (41, .lmul, 1) rfl
theorem d_F_paint_42 : decode b_F_paint 42 = .ok (.ladd, 1) := dd_F_paint 27 (42, .ladd, 1) rfl
theorem d_F_paint_43 : decode b_F_paint 43 = .ok (.lstore 7, 2) := dd_F_paint 28 (43, .lstore 7, 2) rfl
theorem d_F_paint_45 : decode b_F_paint 45 = .ok (.lload 7, 2) := dd_F_paint 29 (45, .lload 7, 2) rfl
theorem d_F_paint_47 : decode b_F_paint 47 = .ok (.lconst 0, 1) := dd_F_paint 30 (47, .lconst 0, 1) rfl
theorem d_F_paint_48 : decode b_F_paint 48 = .ok (.ldc2_w 104, 3) := dd_F_paint 31 (48, .ldc2_w 104, 3) rfl
theorem d_F_paint_51 : decode b_F_paint 51 = .ok (.invokestatic 106, 3) := dd_F_paint 32 (51, .invokestatic 106, 3) rfl
theorem d_F_paint_54 : decode b_F_paint 54 = .ok (.l2i, 1) := dd_F_paint 33 (54, .l2i, 1) rfl
theorem d_F_paint_55 : decode b_F_paint 55 = .ok (.istore 9, 2) := dd_F_paint 34 (55, .istore 9, 2) rfl
theorem d_F_paint_57 : decode b_F_paint 57 = .ok (.iload 9, 2) := dd_F_paint 35 (57, .iload 9, 2) rfl
theorem d_F_paint_59 : decode b_F_paint 59 = .ok (.aload_n 0, 1) := dd_F_paint 36 (59, .aload_n 0, 1) rfl
theorem d_F_paint_60 : decode b_F_paint 60 = .ok (.getfield 27, 3) := dd_F_paint 37 (60, .getfield 27, 3) rfl
theorem d_F_paint_63 : decode b_F_paint 63 = .ok (.iload 6, 2) := dd_F_paint 38 (63, .iload 6, 2) rfl
theorem d_F_paint_65 : decode b_F_paint 65 = .ok (.iload 5, 2) := dd_F_paint 39 (65, .iload 5, 2) rfl
theorem d_F_paint_67 : decode b_F_paint 67 = .ok (.invokevirtual 97, 3) := dd_F_paint 40 (67, .invokevirtual 97, 3) rfl
theorem d_F_paint_70 : decode b_F_paint 70 = .ok (.if_icmp .eq 6, 3) := dd_F_paint 41 (70, .if_icmp .eq 6, 3) rfl
theorem d_F_paint_73 : decode b_F_paint 73 = .ok (.iinc 4 1, 3) := dd_F_paint 42 (73, .iinc 4 1, 3) rfl
theorem d_F_paint_76 : decode b_F_paint 76 = .ok (.aload_n 0, 1) := dd_F_paint 43 (76, .aload_n 0, 1) rfl
theorem d_F_paint_77 : decode b_F_paint 77 = .ok (.getfield 27, 3) := dd_F_paint 44 (77, .getfield 27, 3) rfl
theorem d_F_paint_80 : decode b_F_paint 80 = .ok (.iload 6, 2) := dd_F_paint 45 (80, .iload 6, 2) rfl
theorem d_F_paint_82 : decode b_F_paint 82 = .ok (.iload 5, 2) := dd_F_paint 46 (82, .iload 5, 2) rfl
theorem d_F_paint_84 : decode b_F_paint 84 = .ok (.iload 9, 2) := dd_F_paint 47 (84, .iload 9, 2) rfl
theorem d_F_paint_86 : decode b_F_paint 86 = .ok (.invokevirtual 100, 3) := dd_F_paint 48 (86, .invokevirtual 100, 3) rfl
theorem d_F_paint_89 : decode b_F_paint 89 = .ok (.iinc 6 1, 3) := dd_F_paint 49 (89, .iinc 6 1, 3) rfl
theorem d_F_paint_92 : decode b_F_paint 92 = .ok (.goto (-74), 3) := dd_F_paint 50 (92, .goto (-74), 3) rfl
theorem d_F_paint_95 : decode b_F_paint 95 = .ok (.iinc 5 1, 3) := dd_F_paint 51 (95, .iinc 5 1, 3) rfl
theorem d_F_paint_98 : decode b_F_paint 98 = .ok (.goto (-92), 3) := dd_F_paint 52 (98, .goto (-92), 3) rfl
theorem d_F_paint_101 : decode b_F_paint 101 = .ok (.iload 4, 2) := dd_F_paint 53 (101, .iload 4, 2) rfl
theorem d_F_paint_103 : decode b_F_paint 103 = .ok (.ireturn, 1) := dd_F_paint 54 (103, .ireturn, 1) rfl
def tb_F_encode : List (Nat × Instr × Nat) := [(0, .iload_n 1, 1), (1, .invokestatic 110, 3), (4, .ifCond .eq 13, 3), (7, .iload_n 1, 1), (8, .aload_n 0, 1), (9, .getfield 16, 3), (12, .iconst 2, 1), (13, .idiv, 1), (14, .if_icmp .le 13, 3), (17, .new 92, 3), (20, .dup, 1), (21, .ldc 114, 2), (23, .invokespecial 96, 3), (26, .athrow, 1), (27, .iload_n 2, 1), (28, .ifCond .ge 13, 3), (31, .new 92, 3), (34, .dup, 1), (35, .ldc 116, 2), (37, .invokespecial 96, 3), (40, .athrow, 1), (41, .aload_n 0, 1), (42, .getfield 60, 3), (45, .invokevirtual 118, 3), (48, .aload_n 0, 1), (49, .getfield 74, 3), (52, .invokevirtual 121, 3), (55, .aload_n 0, 1), (56, .getfield 51, 3), (59, .invokevirtual 122, 3), (62, .aload_n 0, 1), (63, .getfield 74, 3), (66, .iload_n 1, 1), (67, .invokestatic 125, 3), (70, .iconst 3, 1), (71, .invokevirtual 129, 3), (74, .aload_n 0, 1), (75, .iconst 0, 1), (76, .iconst 0, 1), (77, .aload_n 0, 1), (78, .getfield 16, 3), (81, .iconst 2, 1), (82, .idiv, 1), (83, .iload_n 1, 1), (84, .iload_n 2, 1), (85, .invokevirtual 132, 3), (88, .aload_n 0, 1), (89, .getfield 60, 3), (92, .getfield 136, 3), (95, .ireturn, 1)]
theorem dd_F_encode : ∀ (i : Nat) (q : Nat × Instr × Nat), tb_F_encode[i]? = some q → decode b_F_encode q.1 = .ok (q.2.1, q.2.2) := z_tab (by decide +kernel)
theorem d_F_encode_0 : decode b_F_encode 0 = .ok (.iload_n 1, 1) := dd_F_encode 0 (0, .iload_n 1, 1) rfl
theorem d_F_encode_1 : decode b_F_encode 1 = .ok (.invokestatic 110, 3) := dd_F_encode 1 (1, .invokestatic 110, 3) rfl
theorem d_F_encode_4 : decode b_F_encode 4 = .ok (.ifCond .eq 13, 3) := dd_F_encode 2 (4, .ifCond .eq 13, 3) rfl
theorem d_F_encode_7 : decode b_F_encode 7 = .ok (.iload_n 1, 1) := dd_F_encode 3 (7, .iload_n 1, 1) rfl
theorem d_F_encode_8 : decode b_F_encode 8 = .ok (.aload_n 0, 1) := dd_F_encode 4 (8, .aload_n 0, 1) rfl
theorem d_F_encode_9 : decode b_F_encode 9 = .ok (.getfield 16, 3) := dd_F_encode 5 (9, .getfield 16, 3) rfl
theorem d_F_encode_12 : decode b_F_encode 12 = .ok (.iconst 2, 1) := dd_F_encode 6 (12, .iconst 2, 1) rfl
theorem d_F_encode_13 : decode b_F_encode 13 = .ok (.idiv, 1) := dd_F_encode 7 (13, .idiv, 1) rfl
theorem d_F_encode_14 : decode b_F_encode 14 = .ok (.if_icmp .le 13, 3) := dd_F_encode 8 (14, .if_icmp .le 13, 3) rfl
theorem d_F_encode_17 : decode b_F_encode 17 = .ok (.new 92, 3) := dd_F_encode 9 (17, .new 92, 3) rfl
theorem d_F_encode_20 : decode b_F_encode 20 = .ok (.dup, 1) := dd_F_encode 10 (20, .dup, 1) rfl
theorem d_F_encode_21 : decode b_F_encode 21 = .ok (.ldc 114, 2) := dd_F_encode 11 (21, .ldc 114, 2) rfl
theorem d_F_encode_23 : decode b_F_encode 23 = .ok (.invokespecial 96, 3) := dd_F_encode 12 (23, .invokespecial 96, 3) rfl
theorem d_F_encode_26 : decode b_F_encode 26 = .ok (.athrow, 1) := dd_F_encode 13 (26, .athrow, 1) rfl
theorem d_F_encode_27 : decode b_F_encode 27 = .ok (.iload_n 2, 1) := dd_F_encode 14 (27, .iload_n 2, 1) rfl
theorem d_F_encode_28 : decode b_F_encode 28 = .ok (.ifCond .ge 13, 3) := dd_F_encode 15 (28, .ifCond .ge 13, 3) rfl
theorem d_F_encode_31 : decode b_F_encode 31 = .ok (.new 92, 3) := dd_F_encode 16 (31, .new 92, 3) rfl
theorem d_F_encode_34 : decode b_F_encode 34 = .ok (.dup, 1) := dd_F_encode 17 (34, .dup, 1) rfl
theorem d_F_encode_35 : decode b_F_encode 35 = .ok (.ldc 116, 2) := dd_F_encode 18 (35, .ldc 116, 2) rfl
theorem d_F_encode_37 : decode b_F_encode 37 = .ok (.invokespecial 96, 3) := dd_F_encode 19 (37, .invokespecial 96, 3) rfl
theorem d_F_encode_40 : decode b_F_encode 40 = .ok (.athrow, 1) := dd_F_encode 20 (40, .athrow, 1) rfl
theorem d_F_encode_41 : decode b_F_encode 41 = .ok (.aload_n 0, 1) := dd_F_encode 21 (41, .aload_n 0, 1) rfl
theorem d_F_encode_42 : decode b_F_encode 42 = .ok (.getfield 60, 3) := dd_F_encode 22 (42, .getfield 60, 3) rfl
theorem d_F_encode_45 : decode b_F_encode 45 = .ok (.invokevirtual 118, 3) := dd_F_encode 23 (45, .invokevirtual 118, 3) rfl
theorem d_F_encode_48 : decode b_F_encode 48 = .ok (.aload_n 0, 1) := dd_F_encode 24 (48, .aload_n 0, 1) rfl
theorem d_F_encode_49 : decode b_F_encode 49 = .ok (.getfield 74, 3) := dd_F_encode 25 (49, .getfield 74, 3) rfl
theorem d_F_encode_52 : decode b_F_encode 52 = .ok (.invokevirtual 121, 3) := dd_F_encode 26 (52, .invokevirtual 121, 3) rfl
theorem d_F_encode_55 : decode b_F_encode 55 = .ok (.aload_n 0, 1) := dd_F_encode 27 (55, .aload_n 0, 1) rfl
theorem d_F_encode_56 : decode b_F_encode 56 = .ok (.getfield 51, 3) := dd_F_encode 28 (56, .getfield 51, 3) rfl
theorem d_F_encode_59 : decode b_F_encode 59 = .ok (.invokevirtual 122, 3) := dd_F_encode 29 (59, .invokevirtual 122, 3) rfl
theorem d_F_encode_62 : decode b_F_encode 62 = .ok (.aload_n 0, 1) := dd_F_encode 30 (62, .aload_n 0, 1) rfl
theorem d_F_encode_63 : decode b_F_encode 63 = .ok (.getfield 74, 3) := dd_F_encode 31 (63, .getfield 74, 3) rfl
theorem d_F_encode_66 : decode b_F_encode 66 = .ok (.iload_n 1, 1) := dd_F_encode 32 (66, .iload_n 1, 1) rfl
theorem d_F_encode_67 : decode b_F_encode 67 = .ok (.invokestatic 125, 3) := dd_F_encode 33 (67, .invokestatic 125, 3) rfl
theorem d_F_encode_70 : decode b_F_encode 70 = .ok (.iconst 3, 1) := dd_F_encode 34 (70, .iconst 3, 1) rfl
theorem d_F_encode_71 : decode b_F_encode 71 = .ok (.invokevirtual 129, 3) := dd_F_encode 35 (71, .invokevirtual 129, 3) rfl
theorem d_F_encode_74 : decode b_F_encode 74 = .ok (.aload_n 0, 1) := dd_F_encode 36 (74, .aload_n 0, 1) rfl
theorem d_F_encode_75 : decode b_F_encode 75 = .ok (.iconst 0, 1) := dd_F_encode 37 (75, .iconst 0, 1) rfl
theorem d_F_encode_76 : decode b_F_encode 76 = .ok (.iconst 0, 1) := dd_F_encode 38 (76, .iconst 0, 1) rfl
theorem d_F_encode_77 : decode b_F_encode 77 = .ok (.aload_n 0, 1) := dd_F_encode 39 (77, .aload_n 0, 1) rfl
theorem d_F_encode_78 : decode b_F_encode 78 = .ok (.getfield 16, 3) := dd_F_encode 40 (78, .getfield 16, 3) rfl
theorem d_F_encode_81 : decode b_F_encode 81 = .ok (.iconst 2, 1) := dd_F_encode 41 (81, .iconst 2, 1) rfl
theorem d_F_encode_82 : decode b_F_encode 82 = .ok (.idiv, 1) := dd_F_encode 42 (82, .idiv, 1) rfl
theorem d_F_encode_83 : decode b_F_encode 83 = .ok (.iload_n 1, 1) := dd_F_encode 43 (83, .iload_n 1, 1) rfl
theorem d_F_encode_84 : decode b_F_encode 84 = .ok (.iload_n 2, 1) := dd_F_encode 44 (84, .iload_n 2, 1) rfl
theorem d_F_encode_85 : decode b_F_encode 85 = .ok (.invokevirtual 132, 3) := dd_F_encode 45 (85, .invokevirtual 132, 3) rfl
theorem d_F_encode_88 : decode b_F_encode 88 = .ok (.aload_n 0, 1) := dd_F_encode 46 (88, .aload_n 0, 1) rfl
theorem d_F_encode_89 : decode b_F_encode 89 = .ok (.getfield 60, 3) := dd_F_encode 47 (89, .getfield 60, 3) rfl
theorem d_F_encode_92 : decode b_F_encode 92 = .ok (.getfield 136, 3) := dd_F_encode 48 (92, .getfield 136, 3) rfl
theorem d_F_encode_95 : decode b_F_encode 95 = .ok (.ireturn, 1) := dd_F_encode 49 (95, .ireturn, 1) rfl
def tb_F_block : List (Nat × Instr × Nat) := [(0, .iload_n 1, 1), (1, .ifCond .lt 14, 3), (4, .iload_n 1, 1), (5, .aload_n 0, 1), (6, .getfield 60, 3), (9, .getfield 136, 3), (12, .if_icmp .lt 13, 3), (15, .new 85, 3), (18, .dup, 1), (19, .ldc 139, 2), (21, .invokespecial 89, 3), (24, .athrow, 1), (25, .iload_n 2, 1), (26, .ifCond .lt 9, 3), (29, .iload_n 2, 1), (30, .bipush 8, 2), (32, .if_icmp .lt 13, 3), (35, .new 92, 3), (38, .dup, 1), (39, .ldc 141, 2), (41, .invokespecial 96, 3), (44, .athrow, 1), (45, .aload_n 0, 1), (46, .getfield 60, 3), (49, .iload_n 1, 1), (50, .iload_n 2, 1), (51, .invokevirtual 143, 3), (54, .ireturn, 1)]
theorem dd_F_block : ∀ (i : Nat) (q : Nat × Instr × Nat), tb_F_block[i]? = some q → decode b_F_block q.1 = .ok (q.2.1, q.2.2) := z_tab (by decide +kernel)
theorem d_F_block_0 : decode b_F_block 0 = .ok (.iload_n 1, 1) := dd_F_block 0 (0, .iload_n 1, 1) rfl
theorem d_F_block_1 : decode b_F_block 1 = .ok (.ifCond .lt 14, 3) := dd_F_block 1 (1, .ifCond .lt 14, 3) rfl
theorem d_F_block_4 : decode b_F_block 4 = .ok (.iload_n 1, 1) := dd_F_block 2 (4, .iload_n 1, 1) rfl
theorem d_F_block_5 : decode b_F_block 5 = .ok (.aload_n 0, 1) := dd_F_block 3 (5, .aload_n 0, 1) rfl
theorem d_F_block_6 : decode b_F_block 6 = .ok (.getfield 60, 3) := dd_F_block 4 (6, .getfield 60, 3) rfl
theorem d_F_block_9 : decode b_F_block 9 = .ok (.getfield 136, 3) := dd_F_block 5 (9, .getfield 136, 3) rfl
theorem d_F_block_12 : decode b_F_block 12 = .ok (.if_icmp .lt 13, 3) := dd_F_block 6 (12, .if_icmp .lt 13, 3) rfl
theorem d_F_block_15 : decode b_F_block 15 = .ok (.new 85, 3) := dd_F_block 7 (15, .new 85, 3) rfl
theorem d_F_block_18 : decode b_F_block 18 = .ok (.dup, 1) := dd_F_block 8 (18, .dup, 1) rfl
theorem d_F_block_19 : decode b_F_block 19 = .ok (.ldc 139, 2) := dd_F_block 9 (19, .ldc 139, 2) rfl
theorem d_F_block_21 : decode b_F_block 21 = .ok (.invokespecial 89, 3) := dd_F_block 10 (21, .invokespecial 89, 3) rfl
theorem d_F_block_24 : decode b_F_block 24 = .ok (.athrow, 1) := dd_F_block 11 (24, .athrow, 1) rfl
theorem d_F_block_25 : decode b_F_block 25 = .ok (.iload_n 2, 1) := dd_F_block 12 (25, .iload_n 2, 1) rfl
theorem d_F_block_26 : decode b_F_block 26 = .ok (.ifCond .lt 9, 3) := dd_F_block 13 (26, .ifCond .lt 9, 3) rfl
theorem d_F_block_29 : decode b_F_block 29 = .ok (.iload_n 2, 1) := dd_F_block 14 (29, .iload_n 2, 1) rfl
theorem d_F_block_30 : decode b_F_block 30 = .ok (.bipush 8, 2) := dd_F_block 15 (30, .bipush 8, 2) rfl
theorem d_F_block_32 : decode b_F_block 32 = .ok (.if_icmp .lt 13, 3) := dd_F_block 16 (32, .if_icmp .lt 13, 3) rfl
theorem d_F_block_35 : decode b_F_block 35 = .ok (.new 92, 3) := dd_F_block 17 (35, .new 92, 3) rfl
theorem d_F_block_38 : decode b_F_block 38 = .ok (.dup, 1) := dd_F_block 18 (38, .dup, 1) rfl
theorem d_F_block_39 : decode b_F_block 39 = .ok (.ldc 141, 2) := dd_F_block 19 (39, .ldc 141, 2) rfl
theorem d_F_block_41 : decode b_F_block 41 = .ok (.invokespecial 96, 3) := dd_F_block 20 (41, .invokespecial 96, 3) rfl
theorem d_F_block_44 : decode b_F_block 44 = .ok (.athrow, 1) := dd_F_block 21 (44, .athrow, 1) rfl
theorem d_F_block_45 : decode b_F_block 45 = .ok (.aload_n 0, 1) := dd_F_block 22 (45, .aload_n 0, 1) rfl
theorem d_F_block_46 : decode b_F_block 46 = .ok (.getfield 60, 3) := dd_F_block 23 (46, .getfield 60, 3) rfl
theorem d_F_block_49 : decode b_F_block 49 = .ok (.iload_n 1, 1) := dd_F_block 24 (49, .iload_n 1, 1) rfl
theorem d_F_block_50 : decode b_F_block 50 = .ok (.iload_n 2, 1) := dd_F_block 25 (50, .iload_n 2, 1) rfl
theorem d_F_block_51 : decode b_F_block 51 = .ok (.invokevirtual 143, 3) := dd_F_block 26 (51, .invokevirtual 143, 3) rfl
theorem d_F_block_54 : decode b_F_block 54 = .ok (.ireturn, 1) := dd_F_block 27 (54, .ireturn, 1) rfl
def tb_F_byteAt : List (Nat × Instr × Nat) := [(0, .iload_n 1, 1), (1, .ifCond .lt 14, 3), (4, .iload_n 1, 1), (5, .aload_n 0, 1), (6, .getfield 74, 3), (9, .invokevirtual 146, 3), (12, .if_icmp .lt 13, 3), (15, .new 85, 3), (18, .dup, 1), (19, .ldc 150, 2), (21, .invokespecial 89, 3), (24, .athrow, 1), (25, .aload_n 0, 1), (26, .getfield 74, 3), (29, .iload_n 1, 1), (30, .invokevirtual 152, 3), (33, .ireturn, 1)]
theorem dd_F_byteAt : ∀ (i : Nat) (q : Nat × Instr × Nat), tb_F_byteAt[i]? = some q → decode b_F_byteAt q.1 = .ok (q.2.1, q.2.2) := z_tab (by decide +kernel)
theorem d_F_byteAt_0 : decode b_F_byteAt 0 = .ok (.iload_n 1, 1) := dd_F_byteAt 0 (0, .iload_n 1, 1) rfl
theorem d_F_byteAt_1 : decode b_F_byteAt 1 = .ok (.ifCond .lt 14, 3) := dd_F_byteAt 1 (1, .ifCond .lt 14, 3) rfl
theorem d_F_byteAt_4 : decode b_F_byteAt 4 = .ok (.iload_n 1, 1) := dd_F_byteAt 2 (4, .iload_n 1, 1) rfl
theorem d_F_byteAt_5 : decode b_F_byteAt 5 = .ok (.aload_n 0, 1) := dd_F_byteAt 3 (5, .aload_n 0, 1) rfl
theorem d_F_byteAt_6 : decode b_F_byteAt 6 = .ok (.getfield 74, 3) := dd_F_byteAt 4 (6, .getfield 74, 3) rfl
theorem d_F_byteAt_9 : decode b_F_byteAt 9 = .ok (.invokevirtual 146, 3) := dd_F_byteAt 5 (9, .invokevirtual 146, 3) rfl
theorem d_F_byteAt_12 : decode b_F_byteAt 12 = .ok (.if_icmp .lt 13, 3) := dd_F_byteAt 6 (12, .if_icmp .lt 13, 3) rfl
theorem d_F_byteAt_15 : decode b_F_byteAt 15 = .ok (.new 85, 3) := dd_F_byteAt 7 (15, .new 85, 3) rfl
theorem d_F_byteAt_18 : decode b_F_byteAt 18 = .ok (.dup, 1) := dd_F_byteAt 8 (18, .dup, 1) rfl
theorem d_F_byteAt_19 : decode b_F_byteAt 19 = .ok (.ldc 150, 2) := dd_F_byteAt 9 (19, .ldc 150, 2) rfl
theorem d_F_byteAt_21 : decode b_F_byteAt 21 = .ok (.invokespecial 89, 3) := dd_F_byteAt 10 (21, .invokespecial 89, 3) rfl
theorem d_F_byteAt_24 : decode b_F_byteAt 24 = .ok (.athrow, 1) := dd_F_byteAt 11 (24, .athrow, 1) rfl
theorem d_F_byteAt_25 : decode b_F_byteAt 25 = .ok (.aload_n 0, 1) := dd_F_byteAt 12 (25, .aload_n 0, 1) rfl
theorem d_F_byteAt_26 : decode b_F_byteAt 26 = .ok (.getfield 74, 3) := dd_F_byteAt 13 (26, .getfield 74, 3) rfl
theorem d_F_byteAt_29 : decode b_F_byteAt 29 = .ok (.iload_n 1, 1) := dd_F_byteAt 14 (29, .iload_n 1, 1) rfl
theorem d_F_byteAt_30 : decode b_F_byteAt 30 = .ok (.invokevirtual 152, 3) := dd_F_byteAt 15 (30, .invokevirtual 152, 3) rfl
theorem d_F_byteAt_33 : decode b_F_byteAt 33 = .ok (.ireturn, 1) := dd_F_byteAt 16 (33, .ireturn, 1) rfl
def tb_F_feed : List (Nat × Instr × Nat) := [(0, .iload_n 1, 1), (1, .ifCond .lt 10, 3), (4, .iload_n 1, 1), (5, .sipush 255, 3), (8, .if_icmp .le 13, 3), (11, .new 92, 3), (14, .dup, 1), (15, .ldc 155, 2), (17, .invokespecial 96, 3), (20, .athrow, 1), (21, .aload_n 0, 1), (22, .getfield 78, 3), (25, .invokevirtual 146, 3), (28, .sipush 2000, 3), (31, .if_icmp .lt 13, 3), (34, .new 157, 3), (37, .dup, 1), (38, .ldc 159, 2), (40, .invokespecial 161, 3), (43, .athrow, 1), (44, .aload_n 0, 1), (45, .getfield 78, 3), (48, .iload_n 1, 1), (49, .bipush 8, 2), (51, .invokevirtual 129, 3), (54, .aload_n 0, 1), (55, .getfield 78, 3), (58, .invokevirtual 146, 3), (61, .ireturn, 1)]
theorem dd_F_feed : ∀ (i : Nat) (q : Nat × Instr × Nat), tb_F_feed[i]? = some q → decode b_F_feed q.1 = .ok (q.2.1, q.2.2) := z_tab (by decide +kernel)
theorem d_F_feed_0 : decode b_F_feed 0 = .ok (.iload_n 1, 1) := dd_F_feed 0 (0, .iload_n 1, 1) rfl
theorem d_F_feed_1 : decode b_F_feed 1 = .ok (.ifCond .lt 10, 3) := dd_F_feed 1 (1, .ifCond .lt 10, 3) rfl
theorem d_F_feed_4 : decode b_F_feed 4 = .ok (.iload_n 1, 1) := dd_F_feed 2 (4, .iload_n 1, 1) rfl
theorem d_F_feed_5 : decode b_F_feed 5 = .ok (.sipush 255, 3) := dd_F_feed 3 (5, .sipush 255, 3) rfl
theorem d_F_feed_8 : decode b_F_feed 8 = .ok (.if_icmp .le 13, 3) := dd_F_feed 4 (8, .if_icmp .le 13, 3) rfl
theorem d_F_feed_11 : decode b_F_feed 11 = .ok (.new 92, 3) := dd_F_feed 5 (11, .new 92, 3) rfl
theorem d_F_feed_14 : decode b_F_feed 14 = .ok (.dup, 1) := dd_F_feed 6 (14, .dup, 1) rfl
theorem d_F_feed_15 : decode b_F_feed 15 = .ok (.ldc 155, 2) := dd_F_feed 7 (15, .ldc 155, 2) rfl
theorem d_F_feed_17 : decode b_F_feed 17 = .ok (.invokespecial 96, 3) := dd_F_feed 8 (17, .invokespecial 96, 3) rfl
theorem d_F_feed_20 : decode b_F_feed 20 = .ok (.athrow, 1) := dd_F_feed 9 (20, .athrow, 1) rfl
theorem d_F_feed_21 : decode b_F_feed 21 = .ok (.aload_n 0, 1) := dd_F_feed 10 (21, .aload_n 0, 1) rfl
theorem d_F_feed_22 : decode b_F_feed 22 = .ok (.getfield 78, 3) := dd_F_feed 11 (22, .getfield 78, 3) rfl
theorem d_F_feed_25 : decode b_F_feed 25 = .ok (.invokevirtual 146, 3) := dd_F_feed 12 (25, .invokevirtual 146, 3) rfl
theorem d_F_feed_28 : decode b_F_feed 28 = .ok (.sipush 2000, 3) := dd_F_feed 13 (28, .sipush 2000, 3) rfl
theorem d_F_feed_31 : decode b_F_feed 31 = .ok (.if_icmp .lt 13, 3) := dd_F_feed 14 (31, .if_icmp .lt 13, 3) rfl
theorem d_F_feed_34 : decode b_F_feed 34 = .ok (.new 157, 3) := dd_F_feed 15 (34, .new 157, 3) rfl
theorem d_F_feed_37 : decode b_F_feed 37 = .ok (.dup, 1) := dd_F_feed 16 (37, .dup, 1) rfl
theorem d_F_feed_38 : decode b_F_feed 38 = .ok (.ldc 159, 2) := dd_F_feed 17 (38, .ldc 159, 2) rfl
theorem d_F_feed_40 : decode b_F_feed 40 = .ok (.invokespecial 161, 3) := dd_F_feed 18 (40, .invokespecial 161, 3) rfl
theorem d_F_feed_43 : decode b_F_feed 43 = .ok (.athrow, 1) := dd_F_feed 19 (43, .athrow, 1) rfl
theorem d_F_feed_44 : decode b_F_feed 44 = .ok (.aload_n 0, 1) := dd_F_feed 20 (44, .aload_n 0, 1) rfl
theorem d_F_feed_45 : decode b_F_feed 45 = .ok (.getfield 78, 3) := dd_F_feed 21 (45, .getfield 78, 3) rfl
theorem d_F_feed_48 : decode b_F_feed 48 = .ok (.iload_n 1, 1) := dd_F_feed 22 (48, .iload_n 1, 1) rfl
theorem d_F_feed_49 : decode b_F_feed 49 = .ok (.bipush 8, 2) := dd_F_feed 23 (49, .bipush 8, 2) rfl
theorem d_F_feed_51 : decode b_F_feed 51 = .ok (.invokevirtual 129, 3) := dd_F_feed 24 (51, .invokevirtual 129, 3) rfl
theorem d_F_feed_54 : decode b_F_feed 54 = .ok (.aload_n 0, 1) := dd_F_feed 25 (54, .aload_n 0, 1) rfl
theorem d_F_feed_55 : decode b_F_feed 55 = .ok (.getfield 78, 3) := dd_F_feed 26 (55, .getfield 78, 3) rfl
theorem d_F_feed_58 : decode b_F_feed 58 = .ok (.invokevirtual 146, 3) := dd_F_feed 27 (58, .invokevirtual 146, 3) rfl
theorem d_F_feed_61 : decode b_F_feed 61 = .ok (.ireturn, 1) := dd_F_feed 28 (61, .ireturn, 1) rfl
def tb_F_pass : List (Nat × Instr × Nat) := [(0, .aload_n 0, 1), (1, .getfield 74, 3), (4, .invokevirtual 146, 3), (7, .istore_n 1, 1), (8, .aload_n 0, 1), (9, .getfield 78, 3), (12, .invokevirtual 146, 3), (15, .iload_n 1, 1), (16, .iadd, 1), (17, .sipush 2000, 3), (20, .if_icmp .le 13, 3), (23, .new 157, 3), (26, .dup, 1), (27, .ldc 162, 2), (29, .invokespecial 161, 3), (32, .athrow, 1), (33, .iconst 0, 1), (34, .istore_n 2, 1), (35, .iload_n 2, 1), (36, .iload_n 1, 1), (37, .if_icmp .ge 26, 3), (40, .aload_n 0, 1), (41, .getfield 78, 3), (44, .aload_n 0, 1), (45, .getfield 74, 3), (48, .iload_n 2, 1), (49, .invokevirtual 152, 3), (52, .bipush 8, 2), (54, .invokevirtual 129, 3), (57, .iinc 2 1, 3), (60, .goto (-25), 3), (63, .aload_n 0, 1), (64, .getfield 78, 3), (67, .invokevirtual 146, 3), (70, .ireturn, 1)]
theorem dd_F_pass : ∀ (i : Nat) (q : Nat × Instr × Nat), tb_F_pass[i]? = some q → decode b_F_pass q.1 = .ok (q.2.1, q.2.2) := z_tab (by decide +kernel)
theorem d_F_pass_0 : decode b_F_pass 0 = .ok (.aload_n 0, 1) := dd_F_pass 0 (0, .aload_n 0, 1) rfl
theorem d_F_pass_1 : decode b_F_pass 1 = .ok (.getfield 74, 3) := dd_F_pass 1 (1, .getfield 74, 3) rfl
theorem d_F_pass_4 : decode b_F_pass 4 = .ok (.invokevirtual 146, 3) := dd_F_pass 2 (4, .invokevirtual 146, 3) rfl
theorem d_F_pass_7 : decode b_F_pass 7 = .ok (.istore_n 1, 1) := dd_F_pass 3 (7, .istore_n 1, 1) rfl
theorem d_F_pass_8 : decode b_F_pass 8 = .ok (.aload_n 0, 1) := dd_F_pass 4 (8, .aload_n 0, 1) rfl
theorem d_F_pass_9 : decode b_F_pass 9 = .ok (.getfield 78, 3) := dd_F_pass 5 (9, .getfield 78, 3) rfl
theorem d_F_pass_12 : decode b_F_pass 12 = .ok (.invokevirtual 146, 3) := dd_F_pass 6 (12, .invokevirtual 146, 3) rfl
theorem d_F_pass_15 : decode b_F_pass 15 = .ok (.iload_n 1, 1) := dd_F_pass 7 (15, .iload_n 1, 1) rfl
theorem d_F_pass_16 : decode b_F_pass 16 = .ok (.iadd, 1) := dd_F_pass 8 (16, .iadd, 1) rfl
theorem d_F_pass_17 : decode b_F_pass 17 = .ok (.sipush 2000, 3) := dd_F_pass 9 (17, .sipush 2000, 3) rfl
theorem d_F_pass_20 : decode b_F_pass 20 = .ok (.if_icmp .le 13, 3) := dd_F_pass 10 (20, .if_icmp .le 13, 3) rfl
theorem d_F_pass_23 : decode b_F_pass 23 = .ok (.new 157, 3) := dd_F_pass 11 (23, .new 157, 3) rfl
theorem d_F_pass_26 : decode b_F_pass 26 = .ok (.dup, 1) := dd_F_pass 12 (26, .dup, 1) rfl
theorem d_F_pass_27 : decode b_F_pass 27 = .ok (.ldc 162, 2) := dd_F_pass 13 (27, .ldc 162, 2) rfl
theorem d_F_pass_29 : decode b_F_pass 29 = .ok (.invokespecial 161, 3) := dd_F_pass 14 (29, .invokespecial 161, 3) rfl
theorem d_F_pass_32 : decode b_F_pass 32 = .ok (.athrow, 1) := dd_F_pass 15 (32, .athrow, 1) rfl
theorem d_F_pass_33 : decode b_F_pass 33 = .ok (.iconst 0, 1) := dd_F_pass 16 (33, .iconst 0, 1) rfl
theorem d_F_pass_34 : decode b_F_pass 34 = .ok (.istore_n 2, 1) := dd_F_pass 17 (34, .istore_n 2, 1) rfl
theorem d_F_pass_35 : decode b_F_pass 35 = .ok (.iload_n 2, 1) := dd_F_pass 18 (35, .iload_n 2, 1) rfl
theorem d_F_pass_36 : decode b_F_pass 36 = .ok (.iload_n 1, 1) := dd_F_pass 19 (36, .iload_n 1, 1) rfl
theorem d_F_pass_37 : decode b_F_pass 37 = .ok (.if_icmp .ge 26, 3) := dd_F_pass 20 (37, .if_icmp .ge 26, 3) rfl
theorem d_F_pass_40 : decode b_F_pass 40 = .ok (.aload_n 0, 1) := dd_F_pass 21 (40, .aload_n 0, 1) rfl
theorem d_F_pass_41 : decode b_F_pass 41 = .ok (.getfield 78, 3) := dd_F_pass 22 (41, .getfield 78, 3) rfl
theorem d_F_pass_44 : decode b_F_pass 44 = .ok (.aload_n 0, 1) := dd_F_pass 23 (44, .aload_n 0, 1) rfl
theorem d_F_pass_45 : decode b_F_pass 45 = .ok (.getfield 74, 3) := dd_F_pass 24 (45, .getfield 74, 3) rfl
theorem d_F_pass_48 : decode b_F_pass 48 = .ok (.iload_n 2, 1) := dd_F_pass 25 (48, .iload_n 2, 1) rfl
theorem d_F_pass_49 : decode b_F_pass 49 = .ok (.invokevirtual 152, 3) := dd_F_pass 26 (49, .invokevirtual 152, 3) rfl
theorem d_F_pass_52 : decode b_F_pass 52 = .ok (.bipush 8, 2) := dd_F_pass 27 (52, .bipush 8, 2) rfl
theorem d_F_pass_54 : decode b_F_pass 54 = .ok (.invokevirtual 129, 3) := dd_F_pass 28 (54, .invokevirtual 129, 3) rfl
theorem d_F_pass_57 : decode b_F_pass 57 = .ok (.iinc 2 1, 3) := dd_F_pass 29 (57, .iinc 2 1, 3) rfl
theorem d_F_pass_60 : decode b_F_pass 60 = .ok (.goto (-25), 3) := dd_F_pass 30 (60, .goto (-25), 3) rfl
theorem d_F_pass_63 : decode b_F_pass 63 = .ok (.aload_n 0, 1) := dd_F_pass 31 (63, .aload_n 0, 1) rfl
theorem d_F_pass_64 : decode b_F_pass 64 = .ok (.getfield 78, 3) := dd_F_pass 32 (64, .getfield 78, 3) rfl
theorem d_F_pass_67 : decode b_F_pass 67 = .ok (.invokevirtual 146, 3) := dd_F_pass 33 (67, .invokevirtual 146, 3) rfl
theorem d_F_pass_70 : decode b_F_pass 70 = .ok (.ireturn, 1) := dd_F_pass 34 (70, .ireturn, 1) rfl
def tb_F_read : List (Nat × Instr × Nat) := [(0, .aload_n 0, 1), (1, .iconst 0, 1), (2, .invokevirtual 164, 3), (5, .istore_n 1, 1), (6, .iload_n 1, 1), (7, .iconst (-1), 1), (8, .if_icmp .ne 16, 3), (11, .aload_n 0, 1), (12, .getfield 60, 3), (15, .invokevirtual 118, 3), (18, .aload_n 0, 1), (19, .iconst 1, 1), (20, .invokevirtual 164, 3), (23, .pop, 1), (24, .aload_n 0, 1), (25, .getfield 78, 3), (28, .invokevirtual 121, 3), (31, .iload_n 1, 1), (32, .iconst (-1), 1), (33, .if_icmp .ne 13, 3), (36, .aload_n 0, 1), (37, .getfield 60, 3), (40, .getfield 136, 3), (43, .goto 6, 3), (46, .iconst (-1), 1), (47, .iload_n 1, 1), (48, .isub, 1), (49, .ireturn, 1)]
theorem dd_F_read : ∀ (i : Nat) (q : Nat × Instr × Nat), tb_F_read[i]? = some q → decode b_F_read q.1 = .ok (q.2.1, q.2.2) := z_tab (by decide +kernel)
theorem d_F_read_0 : decode b_F_read 0 = .ok (.aload_n 0, 1) := dd_F_read 0 (0, .aload_n 0, 1) rfl
theorem d_F_read_1 : decode b_F_read 1 = .ok (.iconst 0, 1) := dd_F_read 1 (1, .iconst 0, 1) rfl
theorem d_F_read_2 : decode b_F_read 2 = .ok (.invokevirtual 164, 3) := dd_F_read 2 (2, .invokevirtual 164, 3) rfl
theorem d_F_read_5 : decode b_F_read 5 = .ok (.istore_n 1, 1) := dd_F_read 3 (5, .istore_n 1, 1) rfl
theorem d_F_read_6 : decode b_F_read 6 = .ok (.iload_n 1, 1) := dd_F_read 4 (6, .iload_n 1, 1) rfl
theorem d_F_read_7 : decode b_F_read 7 = .ok (.iconst (-1), 1) := dd_F_read 5 (7, .iconst (-1), 1) rfl
theorem d_F_read_8 : decode b_F_read 8 = .ok (.if_icmp .ne 16, 3) := dd_F_read 6 (8, .if_icmp .ne 16, 3) rfl
theorem d_F_read_11 : decode b_F_read 11 = .ok (.aload_n 0, 1) := dd_F_read 7 (11, .aload_n 0, 1) rfl
theorem d_F_read_12 : decode b_F_read 12 = .ok (.getfield 60, 3) := dd_F_read 8 (12, .getfield 60, 3) rfl
theorem d_F_read_15 : decode b_F_read 15 = .ok (.invokevirtual 118, 3) := dd_F_read 9 (15, .invokevirtual 118, 3) rfl
theorem d_F_read_18 : decode b_F_read 18 = .ok (.aload_n 0, 1) := dd_F_read 10 (18, .aload_n 0, 1) rfl
theorem d_F_read_19 : decode b_F_read 19 = .ok (.iconst 1, 1) := dd_F_read 11 (19, .iconst 1, 1) rfl
theorem d_F_read_20 : decode b_F_read 20 = .ok (.invokevirtual 164, 3) := dd_F_read 12 (20, .invokevirtual 164, 3) rfl
theorem d_F_read_23 : decode b_F_read 23 = .ok (.pop, 1) := dd_F_read 13 (23, .pop, 1) rfl
theorem d_F_read_24 : decode b_F_read 24 = .ok (.aload_n 0, 1) := dd_F_read 14 (24, .aload_n 0, 1) rfl
theorem d_F_read_25 : decode b_F_read 25 = .ok (.getfield 78, 3) := dd_F_read 15 (25, .getfield 78, 3) rfl
theorem d_F_read_28 : decode b_F_read 28 = .ok (.invokevirtual 121, 3) := dd_F_read 16 (28, .invokevirtual 121, 3) rfl
theorem d_F_read_31 : decode b_F_read 31 = .ok (.iload_n 1, 1) := dd_F_read 17 (31, .iload_n 1, 1) rfl
theorem d_F_read_32 : decode b_F_read 32 = .ok (.iconst (-1), 1) := dd_F_read 18 (32, .iconst (-1), 1) rfl
theorem d_F_read_33 : decode b_F_read 33 = .ok (.if_icmp .ne 13, 3) := dd_F_read 19 (33, .if_icmp .ne 13, 3) rfl
theorem d_F_read_36 : decode b_F_read 36 = .ok (.aload_n 0, 1) := dd_F_read 20 (36, .aload_n 0, 1) rfl
theorem d_F_read_37 : decode b_F_read 37 = .ok (.getfield 60, 3) := dd_F_read 21 (37, .getfield 60, 3) rfl
theorem d_F_read_40 : decode b_F_read 40 = .ok (.getfield 136, 3) := dd_F_read 22 (40, .getfield 136, 3) rfl
theorem d_F_read_43 : decode b_F_read 43 = .ok (.goto 6, 3) := dd_F_read 23 (43, .goto 6, 3) rfl
theorem d_F_read_46 : decode b_F_read 46 = .ok (.iconst (-1), 1) := dd_F_read 24 (46, .iconst (-1), 1) rfl
theorem d_F_read_47 : decode b_F_read 47 = .ok (.iload_n 1, 1) := dd_F_read 25 (47, .iload_n 1, 1) rfl
theorem d_F_read_48 : decode b_F_read 48 = .ok (.isub, 1) := dd_F_read 26 (48, .isub, 1) rfl
theorem d_F_read_49 : decode b_F_read 49 = .ok (.ireturn, 1) := dd_F_read 27 (49, .ireturn, 1) rfl
def tb_F_decode : List (Nat × Instr × Nat) := [(0, .iload_n 1, 1), (1, .iconst 1, 1), (2, .if_icmp .lt 9, 3), (5, .iload_n 1, 1), (6, .bipush 40, 2), (8, .if_icmp .le 13, 3), (11, .new 92, 3), (14, .dup, 1), (15, .ldc 168, 2), (17, .invokespecial 96, 3), (20, .athrow, 1), (21, .iload_n 2, 1), (22, .ifCond .lt 8, 3), (25, .iload_n 2, 1), (26, .iconst 1, 1), (27, .if_icmp .le 13, 3), (30, .new 92, 3), (33, .dup, 1), (34, .ldc 170, 2), (36, .invokespecial 96, 3), (39, .athrow, 1), (40, .aload_n 0, 1), (41, .getfield 60, 3), (44, .getfield 136, 3), (47, .ifCond .ne 13, 3), (50, .new 172, 3), (53, .dup, 1), (54, .ldc 174, 2), (56, .invokespecial 176, 3), (59, .athrow, 1), (60, .aload_n 0, 1), (61, .getfield 31, 3), (64, .aload_n 0, 1), (65, .getfield 16, 3), (68, .iload_n 2, 1), (69, .ishl, 1), (70, .sipush 128, 3), (73, .invokevirtual 177, 3), (76, .iconst 0, 1), (77, .istore_n 3, 1), (78, .iconst 0, 1), (79, .istore 4, 2), (81, .iload 4, 2), (83, .iload_n 1, 1), (84, .if_icmp .ge 15, 3), (87, .aload_n 0, 1), (88, .iload_n 2, 1), (89, .invokevirtual 180, 3), (92, .istore_n 3, 1), (93, .iinc 4 1, 3), (96, .goto (-15), 3), (99, .iload_n 3, 1), (100, .ireturn, 1)]
theorem dd_F_decode : ∀ (i : Nat) (q : Nat × Instr × Nat), tb_F_decode[i]? = some q → decode b_F_decode q.1 = .ok (q.2.1, q.2.2) := z_tab (by decide +kernel)
theorem d_F_decode_0 : decode b_F_decode 0 = .ok (.iload_n 1, 1) := dd_F_decode 0 (0, .iload_n 1, 1) rfl
theorem d_F_decode_1 : decode b_F_decode 1 = .ok (.iconst 1, 1) := dd_F_decode 1 (1, .iconst 1, 1) rfl
theorem d_F_decode_2 : decode b_F_decode 2 = .ok (.if_icmp .lt 9, 3) := dd_F_decode 2 (2, .if_icmp .lt 9, 3) rfl
theorem d_F_decode_5 : decode b_F_decode 5 = .ok (.iload_n 1, 1) := dd_F_decode 3 (5, .iload_n 1, 1) rfl
theorem d_F_decode_6 : decode b_F_decode 6 = .ok (.bipush 40, 2) := dd_F_decode 4 (6, .bipush 40, 2) rfl
theorem d_F_decode_8 : decode b_F_decode 8 = .ok (.if_icmp .le 13, 3) := dd_F_decode 5 (8, .if_icmp .le 13, 3) rfl
theorem d_F_decode_11 : decode b_F_decode 11 = .ok (.new 92, 3) := dd_F_decode 6 (11, .new 92, 3) rfl
theorem d_F_decode_14 : decode b_F_decode 14 = .ok (.dup, 1) := dd_F_decode 7 (14, .dup, 1) rfl
theorem d_F_decode_15 : decode b_F_decode 15 = .ok (.ldc 168, 2) := dd_F_decode 8 (15, .ldc 168, 2) rfl
theorem d_F_decode_17 : decode b_F_decode 17 = .ok (.invokespecial 96, 3) := dd_F_decode 9 (17, .invokespecial 96, 3) rfl
theorem d_F_decode_20 : decode b_F_decode 20 = .ok (.athrow, 1) := dd_F_decode 10 (20, .athrow, 1) rfl
theorem d_F_decode_21 : decode b_F_decode 21 = .ok (.iload_n 2, 1) := dd_F_decode 11 (21, .iload_n 2, 1) rfl
theorem d_F_decode_22 : decode b_F_decode 22 = .ok (.ifCond .lt 8, 3) := dd_F_decode 12 (22, .ifCond .lt 8, 3) rfl
theorem d_F_decode_25 : decode b_F_decode 25 = .ok (.iload_n 2, 1) := dd_F_decode 13 (25, .iload_n 2, 1) rfl
theorem d_F_decode_26 : decode b_F_decode 26 = .ok (.iconst 1, 1) := dd_F_decode 14 (26, .iconst 1, 1) rfl
theorem d_F_decode_27 : decode b_F_decode 27 = .ok (.if_icmp .le 13, 3) := dd_F_decode 15 (27, .if_icmp .le 13, 3) rfl
theorem d_F_decode_30 : decode b_F_decode 30 = .ok (.new 92, 3) := dd_F_decode 16 (30, .new 92, 3) rfl
theorem d_F_decode_33 : decode b_F_decode 33 = .ok (.dup, 1) := dd_F_decode 17 (33, .dup, 1) rfl
theorem d_F_decode_34 : decode b_F_decode 34 = .ok (.ldc 170, 2) := dd_F_decode 18 (34, .ldc 170, 2) rfl
theorem d_F_decode_36 : decode b_F_decode 36 = .ok (.invokespecial 96, 3) := dd_F_decode 19 (36, .invokespecial 96, 3) rfl
theorem d_F_decode_39 : decode b_F_decode 39 = .ok (.athrow, 1) := dd_F_decode 20 (39, .athrow, 1) rfl
theorem d_F_decode_40 : decode b_F_decode 40 = .ok (.aload_n 0, 1) := dd_F_decode 21 (40, .aload_n 0, 1) rfl
theorem d_F_decode_41 : decode b_F_decode 41 = .ok (.getfield 60, 3) := dd_F_decode 22 (41, .getfield 60, 3) rfl
theorem d_F_decode_44 : decode b_F_decode 44 = .ok (.getfield 136, 3) := dd_F_decode 23 (44, .getfield 136, 3) rfl
theorem d_F_decode_47 : decode b_F_decode 47 = .ok (.ifCond .ne 13, 3) := dd_F_decode 24 (47, .ifCond .ne 13, 3) rfl
theorem d_F_decode_50 : decode b_F_decode 50 = .ok (.new 172, 3) := dd_F_decode 25 (50, .new 172, 3) rfl
theorem d_F_decode_53 : decode b_F_decode 53 = .ok (.dup, 1) := dd_F_decode 26 (53, .dup, 1) rfl
theorem d_F_decode_54 : decode b_F_decode 54 = .ok (.ldc 174, 2) := dd_F_decode 27 (54, .ldc 174, 2) rfl
theorem d_F_decode_56 : decode b_F_decode 56 = .ok (.invokespecial 176, 3) := dd_F_decode 28 (56, .invokespecial 176, 3) rfl
theorem d_F_decode_59 : decode b_F_decode 59 = .ok (.athrow, 1) := dd_F_decode 29 (59, .athrow, 1) rfl
theorem d_F_decode_60 : decode b_F_decode 60 = .ok (.aload_n 0, 1) := dd_F_decode 30 (60, .aload_n 0, 1) rfl
theorem d_F_decode_61 : decode b_F_decode 61 = .ok (.getfield 31, 3) := dd_F_decode 31 (61, .getfield 31, 3) rfl
theorem d_F_decode_64 : decode b_F_decode 64 = .ok (.aload_n 0, 1) := dd_F_decode 32 (64, .aload_n 0, 1) rfl
theorem d_F_decode_65 : decode b_F_decode 65 = .ok (.getfield 16, 3) := dd_F_decode 33 (65, .getfield 16, 3) rfl
theorem d_F_decode_68 : decode b_F_decode 68 = .ok (.iload_n 2, 1) := dd_F_decode 34 (68, .iload_n 2, 1) rfl
theorem d_F_decode_69 : decode b_F_decode 69 = .ok (.ishl, 1) := dd_F_decode 35 (69, .ishl, 1) rfl
theorem d_F_decode_70 : decode b_F_decode 70 = .ok (.sipush 128, 3) := dd_F_decode 36 (70, .sipush 128, 3) rfl
theorem d_F_decode_73 : decode b_F_decode 73 = .ok (.invokevirtual 177, 3) := dd_F_decode 37 (73, .invokevirtual 177, 3) rfl
theorem d_F_decode_76 : decode b_F_decode 76 = .ok (.iconst 0, 1) := dd_F_decode 38 (76, .iconst 0, 1) rfl
theorem d_F_decode_77 : decode b_F_decode 77 = .ok (.istore_n 3, 1) := dd_F_decode 39 (77, .istore_n 3, 1) rfl
theorem d_F_decode_78 : decode b_F_decode 78 = .ok (.iconst 0, 1) := dd_F_decode 40 (78, .iconst 0, 1) rfl
theorem d_F_decode_79 : decode b_F_decode 79 = .ok (.istore 4, 2) := dd_F_decode 41 (79, .istore 4, 2) rfl
theorem d_F_decode_81 : decode b_F_decode 81 = .ok (.iload 4, 2) := dd_F_decode 42 (81, .iload 4, 2) rfl
theorem d_F_decode_83 : decode b_F_decode 83 = .ok (.iload_n 1, 1) := dd_F_decode 43 (83, .iload_n 1, 1) rfl
theorem d_F_decode_84 : decode b_F_decode 84 = .ok (.if_icmp .ge 15, 3) := dd_F_decode 44 (84, .if_icmp .ge 15, 3) rfl
theorem d_F_decode_87 : decode b_F_decode 87 = .ok (.aload_n 0, 1) := dd_F_decode 45 (87, .aload_n 0, 1) rfl
theorem d_F_decode_88 : decode b_F_decode 88 = .ok (.iload_n 2, 1) := dd_F_decode 46 (88, .iload_n 2, 1) rfl
theorem d_F_decode_89 : decode b_F_decode 89 = .ok (.invokevirtual 180, 3) := dd_F_decode 47 (89, .invokevirtual 180, 3) rfl
theorem d_F_decode_92 : decode b_F_decode 92 = .ok (.istore_n 3, 1) := dd_F_decode 48 (92, .istore_n 3, 1) rfl
theorem d_F_decode_93 : decode b_F_decode 93 = .ok (.iinc 4 1, 3) := dd_F_decode 49 (93, .iinc 4 1, 3) rfl
theorem d_F_decode_96 : decode b_F_decode 96 = .ok (.goto (-15), 3) := dd_F_decode 50 (96, .goto (-15), 3) rfl
theorem d_F_decode_99 : decode b_F_decode 99 = .ok (.iload_n 3, 1) := dd_F_decode 51 (99, .iload_n 3, 1) rfl
theorem d_F_decode_100 : decode b_F_decode 100 = .ok (.ireturn, 1) := dd_F_decode 52 (100, .ireturn, 1) rfl
def tb_F_at : List (Nat × Instr × Nat) := [(0, .aload_n 0, 1), (1, .getfield 31, 3), (4, .iload_n 1, 1), (5, .iload_n 2, 1), (6, .invokevirtual 81, 3), (9, .ifCond .ne 13, 3), (12, .new 85, 3), (15, .dup, 1), (16, .ldc 183, 2), (18, .invokespecial 89, 3), (21, .athrow, 1), (22, .aload_n 0, 1), (23, .getfield 31, 3), (26, .iload_n 1, 1), (27, .iload_n 2, 1), (28, .invokevirtual 97, 3), (31, .ireturn, 1)]
theorem dd_F_at : ∀ (i : Nat) (q : Nat × Instr × Nat), tb_F_at[i]? = some q → decode b_F_at q.1 = .ok (q.2.1, q.2.2) := z_tab (by decide +kernel)
theorem d_F_at_0 : decode b_F_at 0 = .ok (.aload_n 0, 1) := dd_F_at 0 (0, .aload_n 0, 1) rfl
theorem d_F_at_1 : decode b_F_at 1 = .ok (.getfield 31, 3) := dd_F_at 1 (1, .getfield 31, 3) rfl
theorem d_F_at_4 : decode b_F_at 4 = .ok (.iload_n 1, 1) := dd_F_at 2 (4, .iload_n 1, 1) rfl
theorem d_F_at_5 : decode b_F_at 5 = .ok (.iload_n 2, 1) := dd_F_at 3 (5, .iload_n 2, 1) rfl
theorem d_F_at_6 : decode b_F_at 6 = .ok (.invokevirtual 81, 3) := dd_F_at 4 (6, .invokevirtual 81, 3) rfl
theorem d_F_at_9 : decode b_F_at 9 = .ok (.ifCond .ne 13, 3) := dd_F_at 5 (9, .ifCond .ne 13, 3) rfl
theorem d_F_at_12 : decode b_F_at 12 = .ok (.new 85, 3) := dd_F_at 6 (12, .new 85, 3) rfl
theorem d_F_at_15 : decode b_F_at 15 = .ok (.dup, 1) := dd_F_at 7 (15, .dup, 1) rfl
theorem d_F_at_16 : decode b_F_at 16 = .ok (.ldc 183, 2) := dd_F_at 8 (16, .ldc 183, 2) rfl
theorem d_F_at_18 : decode b_F_at 18 = .ok (.invokespecial 89, 3) := dd_F_at 9 (18, .invokespecial 89, 3) rfl
theorem d_F_at_21 : decode b_F_at 21 = .ok (.athrow, 1) := dd_F_at 10 (21, .athrow, 1) rfl
theorem d_F_at_22 : decode b_F_at 22 = .ok (.aload_n 0, 1) := dd_F_at 11 (22, .aload_n 0, 1) rfl
theorem d_F_at_23 : decode b_F_at 23 = .ok (.getfield 31, 3) := dd_F_at 12 (23, .getfield 31, 3) rfl
theorem d_F_at_26 : decode b_F_at 26 = .ok (.iload_n 1, 1) := dd_F_at 13 (26, .iload_n 1, 1) rfl
theorem d_F_at_27 : decode b_F_at 27 = .ok (.iload_n 2, 1) := dd_F_at 14 (27, .iload_n 2, 1) rfl
theorem d_F_at_28 : decode b_F_at 28 = .ok (.invokevirtual 97, 3) := dd_F_at 15 (28, .invokevirtual 97, 3) rfl
theorem d_F_at_31 : decode b_F_at 31 = .ok (.ireturn, 1) := dd_F_at 16 (31, .ireturn, 1) rfl
def tb_F_missed : List (Nat × Instr × Nat) := [(0, .aload_n 0, 1), (1, .getfield 31, 3), (4, .getfield 185, 3), (7, .aload_n 0, 1), (8, .getfield 16, 3), (11, .if_icmp .eq 13, 3), (14, .new 172, 3), (17, .dup, 1), (18, .ldc 186, 2), (20, .invokespecial 176, 3), (23, .athrow, 1), (24, .lconst 0, 1), (25, .lstore_n 1, 1), (26, .iconst 0, 1), (27, .istore_n 3, 1), (28, .iload_n 3, 1), (29, .aload_n 0, 1), (30, .getfield 16, 3), (33, .if_icmp .ge 59, 3), (36, .iconst 0, 1), (37, .istore 4, 2), (39, .iload 4, 2), (41, .aload_n 0, 1), (42, .getfield 16, 3), (45, .if_icmp .ge 41, 3), (48, .aload_n 0, 1), (49, .getfield 27, 3), (52, .iload 4, 2), (54, .iload_n 3, 1), (55, .invokevirtual 97, 3), (58, .aload_n 0, 1), (59, .getfield 31, 3), (62, .iload 4, 2), (64, .iload_n 3, 1), (65, .invokevirtual 97, 3), (68, .isub, 1), (69, .i2l, 1), (70, .lstore 5, 2), (72, .lload_n 1, 1), (73, .lload 5, 2), (75, .lload 5, 2), (77, .lmul, 1), (78, .ladd, 1), (79, .lstore_n 1, 1), (80, .iinc 4 1, 3), (83, .goto (-44), 3), (86, .iinc 3 1, 3), (89, .goto (-61), 3), (92, .lload_n 1, 1), (93, .lreturn, 1)]
theorem dd_F_missed : ∀ (i : Nat) (q : Nat × Instr × Nat), tb_F_missed[i]? = some q → decode b_F_missed q.1 = .ok (q.2.1, q.2.2) := z_tab (by decide +kernel)
theorem d_F_missed_0 : decode b_F_missed 0 = .ok (.aload_n 0, 1) := dd_F_missed 0 (0, .aload_n 0, 1) rfl
theorem d_F_missed_1 : decode b_F_missed 1 = .ok (.getfield 31, 3) := dd_F_missed 1 (1, .getfield 31, 3) rfl
theorem d_F_missed_4 : decode b_F_missed 4 = .ok (.getfield 185, 3) := dd_F_missed 2 (4, .getfield 185, 3) rfl
theorem d_F_missed_7 : decode b_F_missed 7 = .ok (.aload_n 0, 1) := dd_F_missed 3 (7, .aload_n 0, 1) rfl
theorem d_F_missed_8 : decode b_F_missed 8 = .ok (.getfield 16, 3) := dd_F_missed 4 (8, .getfield 16, 3) rfl
theorem d_F_missed_11 : decode b_F_missed 11 = .ok (.if_icmp .eq 13, 3) := dd_F_missed 5 (11, .if_icmp .eq 13, 3) rfl
theorem d_F_missed_14 : decode b_F_missed 14 = .ok (.new 172, 3) := dd_F_missed 6 (14, .new 172, 3) rfl
theorem d_F_missed_17 : decode b_F_missed 17 = .ok (.dup, 1) := dd_F_missed 7 (17, .dup, 1) rfl
theorem d_F_missed_18 : decode b_F_missed 18 = .ok (.ldc 186, 2) := dd_F_missed 8 (18, .ldc 186, 2) rfl
theorem d_F_missed_20 : decode b_F_missed 20 = .ok (.invokespecial 176, 3) := dd_F_missed 9 (20, .invokespecial 176, 3) rfl
theorem d_F_missed_23 : decode b_F_missed 23 = .ok (.athrow, 1) := dd_F_missed 10 (23, .athrow, 1) rfl
theorem d_F_missed_24 : decode b_F_missed 24 = .ok (.lconst 0, 1) := dd_F_missed 11 (24, .lconst 0, 1) rfl
theorem d_F_missed_25 : decode b_F_missed 25 = .ok (.lstore_n 1, 1) := dd_F_missed 12 (25, .lstore_n 1, 1) rfl
theorem d_F_missed_26 : decode b_F_missed 26 = .ok (.iconst 0, 1) := dd_F_missed 13 (26, .iconst 0, 1) rfl
theorem d_F_missed_27 : decode b_F_missed 27 = .ok (.istore_n 3, 1) := dd_F_missed 14 (27, .istore_n 3, 1) rfl
theorem d_F_missed_28 : decode b_F_missed 28 = .ok (.iload_n 3, 1) := dd_F_missed 15 (28, .iload_n 3, 1) rfl
theorem d_F_missed_29 : decode b_F_missed 29 = .ok (.aload_n 0, 1) := dd_F_missed 16 (29, .aload_n 0, 1) rfl
theorem d_F_missed_30 : decode b_F_missed 30 = .ok (.getfield 16, 3) := dd_F_missed 17 (30, .getfield 16, 3) rfl
theorem d_F_missed_33 : decode b_F_missed 33 = .ok (.if_icmp .ge 59, 3) := dd_F_missed 18 (33, .if_icmp .ge 59, 3) rfl
theorem d_F_missed_36 : decode b_F_missed 36 = .ok (.iconst 0, 1) := dd_F_missed 19 (36, .iconst 0, 1) rfl
theorem d_F_missed_37 : decode b_F_missed 37 = .ok (.istore 4, 2) := dd_F_missed 20 (37, .istore 4, 2) rfl
theorem d_F_missed_39 : decode b_F_missed 39 = .ok (.iload 4, 2) := dd_F_missed 21 (39, .iload 4, 2) rfl
theorem d_F_missed_41 : decode b_F_missed 41 = .ok (.aload_n 0, 1) := dd_F_missed 22 (41, .aload_n 0, 1) rfl
theorem d_F_missed_42 : decode b_F_missed 42 = .ok (.getfield 16, 3) := dd_F_missed 23 (42, .getfield 16, 3) rfl
theorem d_F_missed_45 : decode b_F_missed 45 = .ok (.if_icmp .ge 41, 3) := dd_F_missed 24 (45, .if_icmp .ge 41, 3) rfl
theorem d_F_missed_48 : decode b_F_missed 48 = .ok (.aload_n 0, 1) := dd_F_missed 25 (48, .aload_n 0, 1) rfl
theorem d_F_missed_49 : decode b_F_missed 49 = .ok (.getfield 27, 3) := dd_F_missed 26 (49, .getfield 27, 3) rfl
theorem d_F_missed_52 : decode b_F_missed 52 = .ok (.iload 4, 2) := dd_F_missed 27 (52, .iload 4, 2) rfl
theorem d_F_missed_54 : decode b_F_missed 54 = .ok (.iload_n 3, 1) := dd_F_missed 28 (54, .iload_n 3, 1) rfl
theorem d_F_missed_55 : decode b_F_missed 55 = .ok (.invokevirtual 97, 3) := dd_F_missed 29 (55, .invokevirtual 97, 3) rfl
theorem d_F_missed_58 : decode b_F_missed 58 = .ok (.aload_n 0, 1) := dd_F_missed 30 (58, .aload_n 0, 1) rfl
theorem d_F_missed_59 : decode b_F_missed 59 = .ok (.getfield 31, 3) := dd_F_missed 31 (59, .getfield 31, 3) rfl
theorem d_F_missed_62 : decode b_F_missed 62 = .ok (.iload 4, 2) := dd_F_missed 32 (62, .iload 4, 2) rfl
theorem d_F_missed_64 : decode b_F_missed 64 = .ok (.iload_n 3, 1) := dd_F_missed 33 (64, .iload_n 3, 1) rfl
theorem d_F_missed_65 : decode b_F_missed 65 = .ok (.invokevirtual 97, 3) := dd_F_missed 34 (65, .invokevirtual 97, 3) rfl
theorem d_F_missed_68 : decode b_F_missed 68 = .ok (.isub, 1) := dd_F_missed 35 (68, .isub, 1) rfl
theorem d_F_missed_69 : decode b_F_missed 69 = .ok (.i2l, 1) := dd_F_missed 36 (69, .i2l, 1) rfl
theorem d_F_missed_70 : decode b_F_missed 70 = .ok (.lstore 5, 2) := dd_F_missed 37 (70, .lstore 5, 2) rfl
theorem d_F_missed_72 : decode b_F_missed 72 = .ok (.lload_n 1, 1) := dd_F_missed 38 (72, .lload_n 1, 1) rfl
theorem d_F_missed_73 : decode b_F_missed 73 = .ok (.lload 5, 2) := dd_F_missed 39 (73, .lload 5, 2) rfl
theorem d_F_missed_75 : decode b_F_missed 75 = .ok (.lload 5, 2) := dd_F_missed 40 (75, .lload 5, 2) rfl
theorem d_F_missed_77 : decode b_F_missed 77 = .ok (.lmul, 1) := dd_F_missed 41 (77, .lmul, 1) rfl
theorem d_F_missed_78 : decode b_F_missed 78 = .ok (.ladd, 1) := dd_F_missed 42 (78, .ladd, 1) rfl
theorem d_F_missed_79 : decode b_F_missed 79 = .ok (.lstore_n 1, 1) := dd_F_missed 43 (79, .lstore_n 1, 1) rfl
theorem d_F_missed_80 : decode b_F_missed 80 = .ok (.iinc 4 1, 3) := dd_F_missed 44 (80, .iinc 4 1, 3) rfl
theorem d_F_missed_83 : decode b_F_missed 83 = .ok (.goto (-44), 3) := dd_F_missed 45 (83, .goto (-44), 3) rfl
theorem d_F_missed_86 : decode b_F_missed 86 = .ok (.iinc 3 1, 3) := dd_F_missed 46 (86, .iinc 3 1, 3) rfl
theorem d_F_missed_89 : decode b_F_missed 89 = .ok (.goto (-61), 3) := dd_F_missed 47 (89, .goto (-61), 3) rfl
theorem d_F_missed_92 : decode b_F_missed 92 = .ok (.lload_n 1, 1) := dd_F_missed 48 (92, .lload_n 1, 1) rfl
theorem d_F_missed_93 : decode b_F_missed 93 = .ok (.lreturn, 1) := dd_F_missed 49 (93, .lreturn, 1) rfl
def tb_F_domain : List (Nat × Instr × Nat) := [(0, .iload_n 1, 1), (1, .invokestatic 110, 3), (4, .ifCond .eq 13, 3), (7, .iload_n 1, 1), (8, .aload_n 0, 1), (9, .getfield 16, 3), (12, .iconst 2, 1), (13, .idiv, 1), (14, .if_icmp .le 13, 3), (17, .new 92, 3), (20, .dup, 1), (21, .ldc 188, 2), (23, .invokespecial 96, 3), (26, .athrow, 1), (27, .iload_n 3, 1), (28, .ifCond .lt 9, 3), (31, .iload_n 3, 1), (32, .bipush 8, 2), (34, .if_icmp .lt 13, 3), (37, .new 92, 3), (40, .dup, 1), (41, .ldc 190, 2), (43, .invokespecial 96, 3), (46, .athrow, 1), (47, .iload_n 2, 1), (48, .ifCond .lt 15, 3), (51, .iload_n 2, 1), (52, .aload_n 0, 1), (53, .getfield 16, 3), (56, .iload_n 1, 1), (57, .invokestatic 192, 3), (60, .if_icmp .lt 13, 3), (63, .new 85, 3), (66, .dup, 1), (67, .ldc 195, 2), (69, .invokespecial 89, 3), (72, .athrow, 1), (73, .iload 4, 2), (75, .ifCond .lt 20, 3), (78, .iload 4, 2), (80, .iload_n 1, 1), (81, .if_icmp .ge 14, 3), (84, .iload 5, 2), (86, .ifCond .lt 9, 3), (89, .iload 5, 2), (91, .iload_n 1, 1), (92, .if_icmp .lt 13, 3), (95, .new 85, 3), (98, .dup, 1), (99, .ldc 197, 2), (101, .invokespecial 89, 3), (104, .athrow, 1), (105, .aload_n 0, 1), (106, .getfield 34, 3), (109, .aload_n 0, 1), (110, .getfield 27, 3), (113, .invokevirtual 199, 3), (116, .aload_n 0, 1), (117, .getfield 42, 3), (120, .iload_n 1, 1), (121, .iload_n 2, 1), (122, .iload_n 3, 1), (123, .invokevirtual 202, 3), (126, .aload_n 0, 1), (127, .getfield 42, 3), (130, .iload 4, 2), (132, .iload 5, 2), (134, .invokevirtual 205, 3), (137, .ireturn, 1)]
theorem dd_F_domain : ∀ (i : Nat) (q : Nat × Instr × Nat), tb_F_domain[i]? = some q → decode b_F_domain q.1 = .ok (q.2.1, q.2.2) := z_tab (by decide +kernel)
theorem d_F_domain_0 : decode b_F_domain 0 = .ok (.iload_n 1, 1) := dd_F_domain 0 (0, .iload_n 1, 1) rfl
theorem d_F_domain_1 : decode b_F_domain 1 = .ok (.invokestatic 110, 3) := dd_F_domain 1 (1, .invokestatic 110, 3) rfl
theorem d_F_domain_4 : decode b_F_domain 4 = .ok (.ifCond .eq 13, 3) := dd_F_domain 2 (4, .ifCond .eq 13, 3) rfl
theorem d_F_domain_7 : decode b_F_domain 7 = .ok (.iload_n 1, 1) := dd_F_domain 3 (7, .iload_n 1, 1) rfl
theorem d_F_domain_8 : decode b_F_domain 8 = .ok (.aload_n 0, 1) := dd_F_domain 4 (8, .aload_n 0, 1) rfl
theorem d_F_domain_9 : decode b_F_domain 9 = .ok (.getfield 16, 3) := dd_F_domain 5 (9, .getfield 16, 3) rfl
theorem d_F_domain_12 : decode b_F_domain 12 = .ok (.iconst 2, 1) := dd_F_domain 6 (12, .iconst 2, 1) rfl
theorem d_F_domain_13 : decode b_F_domain 13 = .ok (.idiv, 1) := dd_F_domain 7 (13, .idiv, 1) rfl
theorem d_F_domain_14 : decode b_F_domain 14 = .ok (.if_icmp .le 13, 3) := dd_F_domain 8 (14, .if_icmp .le 13, 3) rfl
theorem d_F_domain_17 : decode b_F_domain 17 = .ok (.new 92, 3) := dd_F_domain 9 (17, .new 92, 3) rfl
theorem d_F_domain_20 : decode b_F_domain 20 = .ok (.dup, 1) := dd_F_domain 10 (20, .dup, 1) rfl
theorem d_F_domain_21 : decode b_F_domain 21 = .ok (.ldc 188, 2) := dd_F_domain 11 (21, .ldc 188, 2) rfl
theorem d_F_domain_23 : decode b_F_domain 23 = .ok (.invokespecial 96, 3) := dd_F_domain 12 (23, .invokespecial 96, 3) rfl
theorem d_F_domain_26 : decode b_F_domain 26 = .ok (.athrow, 1) := dd_F_domain 13 (26, .athrow, 1) rfl
theorem d_F_domain_27 : decode b_F_domain 27 = .ok (.iload_n 3, 1) := dd_F_domain 14 (27, .iload_n 3, 1) rfl
theorem d_F_domain_28 : decode b_F_domain 28 = .ok (.ifCond .lt 9, 3) := dd_F_domain 15 (28, .ifCond .lt 9, 3) rfl
theorem d_F_domain_31 : decode b_F_domain 31 = .ok (.iload_n 3, 1) := dd_F_domain 16 (31, .iload_n 3, 1) rfl
theorem d_F_domain_32 : decode b_F_domain 32 = .ok (.bipush 8, 2) := dd_F_domain 17 (32, .bipush 8, 2) rfl
theorem d_F_domain_34 : decode b_F_domain 34 = .ok (.if_icmp .lt 13, 3) := dd_F_domain 18 (34, .if_icmp .lt 13, 3) rfl
theorem d_F_domain_37 : decode b_F_domain 37 = .ok (.new 92, 3) := dd_F_domain 19 (37, .new 92, 3) rfl
theorem d_F_domain_40 : decode b_F_domain 40 = .ok (.dup, 1) := dd_F_domain 20 (40, .dup, 1) rfl
theorem d_F_domain_41 : decode b_F_domain 41 = .ok (.ldc 190, 2) := dd_F_domain 21 (41, .ldc 190, 2) rfl
theorem d_F_domain_43 : decode b_F_domain 43 = .ok (.invokespecial 96, 3) := dd_F_domain 22 (43, .invokespecial 96, 3) rfl
theorem d_F_domain_46 : decode b_F_domain 46 = .ok (.athrow, 1) := dd_F_domain 23 (46, .athrow, 1) rfl
theorem d_F_domain_47 : decode b_F_domain 47 = .ok (.iload_n 2, 1) := dd_F_domain 24 (47, .iload_n 2, 1) rfl
theorem d_F_domain_48 : decode b_F_domain 48 = .ok (.ifCond .lt 15, 3) := dd_F_domain 25 (48, .ifCond .lt 15, 3) rfl
theorem d_F_domain_51 : decode b_F_domain 51 = .ok (.iload_n 2, 1) := dd_F_domain 26 (51, .iload_n 2, 1) rfl
theorem d_F_domain_52 : decode b_F_domain 52 = .ok (.aload_n 0, 1) := dd_F_domain 27 (52, .aload_n 0, 1) rfl
theorem d_F_domain_53 : decode b_F_domain 53 = .ok (.getfield 16, 3) := dd_F_domain 28 (53, .getfield 16, 3) rfl
theorem d_F_domain_56 : decode b_F_domain 56 = .ok (.iload_n 1, 1) := dd_F_domain 29 (56, .iload_n 1, 1) rfl
theorem d_F_domain_57 : decode b_F_domain 57 = .ok (.invokestatic 192, 3) := dd_F_domain 30 (57, .invokestatic 192, 3) rfl
theorem d_F_domain_60 : decode b_F_domain 60 = .ok (.if_icmp .lt 13, 3) := dd_F_domain 31 (60, .if_icmp .lt 13, 3) rfl
theorem d_F_domain_63 : decode b_F_domain 63 = .ok (.new 85, 3) := dd_F_domain 32 (63, .new 85, 3) rfl
theorem d_F_domain_66 : decode b_F_domain 66 = .ok (.dup, 1) := dd_F_domain 33 (66, .dup, 1) rfl
theorem d_F_domain_67 : decode b_F_domain 67 = .ok (.ldc 195, 2) := dd_F_domain 34 (67, .ldc 195, 2) rfl
theorem d_F_domain_69 : decode b_F_domain 69 = .ok (.invokespecial 89, 3) := dd_F_domain 35 (69, .invokespecial 89, 3) rfl
theorem d_F_domain_72 : decode b_F_domain 72 = .ok (.athrow, 1) := dd_F_domain 36 (72, .athrow, 1) rfl
theorem d_F_domain_73 : decode b_F_domain 73 = .ok (.iload 4, 2) := dd_F_domain 37 (73, .iload 4, 2) rfl
theorem d_F_domain_75 : decode b_F_domain 75 = .ok (.ifCond .lt 20, 3) := dd_F_domain 38 (75, .ifCond .lt 20, 3) rfl
theorem d_F_domain_78 : decode b_F_domain 78 = .ok (.iload 4, 2) := dd_F_domain 39 (78, .iload 4, 2) rfl
theorem d_F_domain_80 : decode b_F_domain 80 = .ok (.iload_n 1, 1) := dd_F_domain 40 (80, .iload_n 1, 1) rfl
theorem d_F_domain_81 : decode b_F_domain 81 = .ok (.if_icmp .ge 14, 3) := dd_F_domain 41 (81, .if_icmp .ge 14, 3) rfl
theorem d_F_domain_84 : decode b_F_domain 84 = .ok (.iload 5, 2) := dd_F_domain 42 (84, .iload 5, 2) rfl
theorem d_F_domain_86 : decode b_F_domain 86 = .ok (.ifCond .lt 9, 3) := dd_F_domain 43 (86, .ifCond .lt 9, 3) rfl
theorem d_F_domain_89 : decode b_F_domain 89 = .ok (.iload 5, 2) := dd_F_domain 44 (89, .iload 5, 2) rfl
theorem d_F_domain_91 : decode b_F_domain 91 = .ok (.iload_n 1, 1) := dd_F_domain 45 (91, .iload_n 1, 1) rfl
theorem d_F_domain_92 : decode b_F_domain 92 = .ok (.if_icmp .lt 13, 3) := dd_F_domain 46 (92, .if_icmp .lt 13, 3) rfl
theorem d_F_domain_95 : decode b_F_domain 95 = .ok (.new 85, 3) := dd_F_domain 47 (95, .new 85, 3) rfl
theorem d_F_domain_98 : decode b_F_domain 98 = .ok (.dup, 1) := dd_F_domain 48 (98, .dup, 1) rfl
theorem d_F_domain_99 : decode b_F_domain 99 = .ok (.ldc 197, 2) := dd_F_domain 49 (99, .ldc 197, 2) rfl
theorem d_F_domain_101 : decode b_F_domain 101 = .ok (.invokespecial 89, 3) := dd_F_domain 50 (101, .invokespecial 89, 3) rfl
theorem d_F_domain_104 : decode b_F_domain 104 = .ok (.athrow, 1) := dd_F_domain 51 (104, .athrow, 1) rfl
theorem d_F_domain_105 : decode b_F_domain 105 = .ok (.aload_n 0, 1) := dd_F_domain 52 (105, .aload_n 0, 1) rfl
theorem d_F_domain_106 : decode b_F_domain 106 = .ok (.getfield 34, 3) := dd_F_domain 53 (106, .getfield 34, 3) rfl
theorem d_F_domain_109 : decode b_F_domain 109 = .ok (.aload_n 0, 1) := dd_F_domain 54 (109, .aload_n 0, 1) rfl
theorem d_F_domain_110 : decode b_F_domain 110 = .ok (.getfield 27, 3) := dd_F_domain 55 (110, .getfield 27, 3) rfl
theorem d_F_domain_113 : decode b_F_domain 113 = .ok (.invokevirtual 199, 3) := dd_F_domain 56 (113, .invokevirtual 199, 3) rfl
theorem d_F_domain_116 : decode b_F_domain 116 = .ok (.aload_n 0, 1) := dd_F_domain 57 (116, .aload_n 0, 1) rfl
theorem d_F_domain_117 : decode b_F_domain 117 = .ok (.getfield 42, 3) := dd_F_domain 58 (117, .getfield 42, 3) rfl
theorem d_F_domain_120 : decode b_F_domain 120 = .ok (.iload_n 1, 1) := dd_F_domain 59 (120, .iload_n 1, 1) rfl
theorem d_F_domain_121 : decode b_F_domain 121 = .ok (.iload_n 2, 1) := dd_F_domain 60 (121, .iload_n 2, 1) rfl
theorem d_F_domain_122 : decode b_F_domain 122 = .ok (.iload_n 3, 1) := dd_F_domain 61 (122, .iload_n 3, 1) rfl
theorem d_F_domain_123 : decode b_F_domain 123 = .ok (.invokevirtual 202, 3) := dd_F_domain 62 (123, .invokevirtual 202, 3) rfl
theorem d_F_domain_126 : decode b_F_domain 126 = .ok (.aload_n 0, 1) := dd_F_domain 63 (126, .aload_n 0, 1) rfl
theorem d_F_domain_127 : decode b_F_domain 127 = .ok (.getfield 42, 3) := dd_F_domain 64 (127, .getfield 42, 3) rfl
theorem d_F_domain_130 : decode b_F_domain 130 = .ok (.iload 4, 2) := dd_F_domain 65 (130, .iload 4, 2) rfl
theorem d_F_domain_132 : decode b_F_domain 132 = .ok (.iload 5, 2) := dd_F_domain 66 (132, .iload 5, 2) rfl
theorem d_F_domain_134 : decode b_F_domain 134 = .ok (.invokevirtual 205, 3) := dd_F_domain 67 (134, .invokevirtual 205, 3) rfl
theorem d_F_domain_137 : decode b_F_domain 137 = .ok (.ireturn, 1) := dd_F_domain 68 (137, .ireturn, 1) rfl
def tb_F_kind : List (Nat × Instr × Nat) := [(0, .iload_n 3, 1), (1, .invokestatic 110, 3), (4, .ifCond .ne 13, 3), (7, .new 92, 3), (10, .dup, 1), (11, .ldc 188, 2), (13, .invokespecial 96, 3), (16, .athrow, 1), (17, .iload_n 1, 1), (18, .ifCond .lt 27, 3), (21, .iload_n 1, 1), (22, .aload_n 0, 1), (23, .getfield 16, 3), (26, .iload_n 3, 1), (27, .isub, 1), (28, .if_icmp .gt 17, 3), (31, .iload_n 2, 1), (32, .ifCond .lt 13, 3), (35, .iload_n 2, 1), (36, .aload_n 0, 1), (37, .getfield 16, 3), (40, .iload_n 3, 1), (41, .isub, 1), (42, .if_icmp .le 13, 3), (45, .new 85, 3), (48, .dup, 1), (49, .ldc 206, 2), (51, .invokespecial 89, 3), (54, .athrow, 1), (55, .aload_n 0, 1), (56, .getfield 27, 3), (59, .iload_n 1, 1), (60, .iload_n 2, 1), (61, .iload_n 3, 1), (62, .invokevirtual 208, 3), (65, .ireturn, 1)]
theorem dd_F_kind : ∀ (i : Nat) (q : Nat × Instr × Nat), tb_F_kind[i]? = some q → decode b_F_kind q.1 = .ok (q.2.1, q.2.2) := z_tab (by decide +kernel)
theorem d_F_kind_0 : decode b_F_kind 0 = .ok (.iload_n 3, 1) := dd_F_kind 0 (0, .iload_n 3, 1) rfl
theorem d_F_kind_1 : decode b_F_kind 1 = .ok (.invokestatic 110, 3) := dd_F_kind 1 (1, .invokestatic 110, 3) rfl
theorem d_F_kind_4 : decode b_F_kind 4 = .ok (.ifCond .ne 13, 3) := dd_F_kind 2 (4, .ifCond .ne 13, 3) rfl
theorem d_F_kind_7 : decode b_F_kind 7 = .ok (.new 92, 3) := dd_F_kind 3 (7, .new 92, 3) rfl
theorem d_F_kind_10 : decode b_F_kind 10 = .ok (.dup, 1) := dd_F_kind 4 (10, .dup, 1) rfl
theorem d_F_kind_11 : decode b_F_kind 11 = .ok (.ldc 188, 2) := dd_F_kind 5 (11, .ldc 188, 2) rfl
theorem d_F_kind_13 : decode b_F_kind 13 = .ok (.invokespecial 96, 3) := dd_F_kind 6 (13, .invokespecial 96, 3) rfl
theorem d_F_kind_16 : decode b_F_kind 16 = .ok (.athrow, 1) := dd_F_kind 7 (16, .athrow, 1) rfl
theorem d_F_kind_17 : decode b_F_kind 17 = .ok (.iload_n 1, 1) := dd_F_kind 8 (17, .iload_n 1, 1) rfl
theorem d_F_kind_18 : decode b_F_kind 18 = .ok (.ifCond .lt 27, 3) := dd_F_kind 9 (18, .ifCond .lt 27, 3) rfl
theorem d_F_kind_21 : decode b_F_kind 21 = .ok (.iload_n 1, 1) := dd_F_kind 10 (21, .iload_n 1, 1) rfl
theorem d_F_kind_22 : decode b_F_kind 22 = .ok (.aload_n 0, 1) := dd_F_kind 11 (22, .aload_n 0, 1) rfl
theorem d_F_kind_23 : decode b_F_kind 23 = .ok (.getfield 16, 3) := dd_F_kind 12 (23, .getfield 16, 3) rfl
theorem d_F_kind_26 : decode b_F_kind 26 = .ok (.iload_n 3, 1) := dd_F_kind 13 (26, .iload_n 3, 1) rfl
theorem d_F_kind_27 : decode b_F_kind 27 = .ok (.isub, 1) := dd_F_kind 14 (27, .isub, 1) rfl
theorem d_F_kind_28 : decode b_F_kind 28 = .ok (.if_icmp .gt 17, 3) := dd_F_kind 15 (28, .if_icmp .gt 17, 3) rfl
theorem d_F_kind_31 : decode b_F_kind 31 = .ok (.iload_n 2, 1) := dd_F_kind 16 (31, .iload_n 2, 1) rfl
theorem d_F_kind_32 : decode b_F_kind 32 = .ok (.ifCond .lt 13, 3) := dd_F_kind 17 (32, .ifCond .lt 13, 3) rfl
theorem d_F_kind_35 : decode b_F_kind 35 = .ok (.iload_n 2, 1) := dd_F_kind 18 (35, .iload_n 2, 1) rfl
theorem d_F_kind_36 : decode b_F_kind 36 = .ok (.aload_n 0, 1) := dd_F_kind 19 (36, .aload_n 0, 1) rfl
theorem d_F_kind_37 : decode b_F_kind 37 = .ok (.getfield 16, 3) := dd_F_kind 20 (37, .getfield 16, 3) rfl
theorem d_F_kind_40 : decode b_F_kind 40 = .ok (.iload_n 3, 1) := dd_F_kind 21 (40, .iload_n 3, 1) rfl
theorem d_F_kind_41 : decode b_F_kind 41 = .ok (.isub, 1) := dd_F_kind 22 (41, .isub, 1) rfl
theorem d_F_kind_42 : decode b_F_kind 42 = .ok (.if_icmp .le 13, 3) := dd_F_kind 23 (42, .if_icmp .le 13, 3) rfl
theorem d_F_kind_45 : decode b_F_kind 45 = .ok (.new 85, 3) := dd_F_kind 24 (45, .new 85, 3) rfl
theorem d_F_kind_48 : decode b_F_kind 48 = .ok (.dup, 1) := dd_F_kind 25 (48, .dup, 1) rfl
theorem d_F_kind_49 : decode b_F_kind 49 = .ok (.ldc 206, 2) := dd_F_kind 26 (49, .ldc 206, 2) rfl
theorem d_F_kind_51 : decode b_F_kind 51 = .ok (.invokespecial 89, 3) := dd_F_kind 27 (51, .invokespecial 89, 3) rfl
theorem d_F_kind_54 : decode b_F_kind 54 = .ok (.athrow, 1) := dd_F_kind 28 (54, .athrow, 1) rfl
theorem d_F_kind_55 : decode b_F_kind 55 = .ok (.aload_n 0, 1) := dd_F_kind 29 (55, .aload_n 0, 1) rfl
theorem d_F_kind_56 : decode b_F_kind 56 = .ok (.getfield 27, 3) := dd_F_kind 30 (56, .getfield 27, 3) rfl
theorem d_F_kind_59 : decode b_F_kind 59 = .ok (.iload_n 1, 1) := dd_F_kind 31 (59, .iload_n 1, 1) rfl
theorem d_F_kind_60 : decode b_F_kind 60 = .ok (.iload_n 2, 1) := dd_F_kind 32 (60, .iload_n 2, 1) rfl
theorem d_F_kind_61 : decode b_F_kind 61 = .ok (.iload_n 3, 1) := dd_F_kind 33 (61, .iload_n 3, 1) rfl
theorem d_F_kind_62 : decode b_F_kind 62 = .ok (.invokevirtual 208, 3) := dd_F_kind 34 (62, .invokevirtual 208, 3) rfl
theorem d_F_kind_65 : decode b_F_kind 65 = .ok (.ireturn, 1) := dd_F_kind 35 (65, .ireturn, 1) rfl
def tb_F_tried : List (Nat × Instr × Nat) := [(0, .aload_n 0, 1), (1, .getfield 51, 3), (4, .getfield 212, 3), (7, .ireturn, 1)]
theorem dd_F_tried : ∀ (i : Nat) (q : Nat × Instr × Nat), tb_F_tried[i]? = some q → decode b_F_tried q.1 = .ok (q.2.1, q.2.2) := z_tab (by decide +kernel)
theorem d_F_tried_0 : decode b_F_tried 0 = .ok (.aload_n 0, 1) := dd_F_tried 0 (0, .aload_n 0, 1) rfl
theorem d_F_tried_1 : decode b_F_tried 1 = .ok (.getfield 51, 3) := dd_F_tried 1 (1, .getfield 51, 3) rfl
theorem d_F_tried_4 : decode b_F_tried 4 = .ok (.getfield 212, 3) := dd_F_tried 2 (4, .getfield 212, 3) rfl
theorem d_F_tried_7 : decode b_F_tried 7 = .ok (.ireturn, 1) := dd_F_tried 3 (7, .ireturn, 1) rfl
def tb_F_told : List (Nat × Instr × Nat) := [(0, .iload_n 1, 1), (1, .tableswitch 72 0 4 #[35, 40, 48, 56, 64], 35), (36, .aload_n 0, 1), (37, .getfield 16, 3), (40, .ireturn, 1), (41, .aload_n 0, 1), (42, .getfield 60, 3), (45, .getfield 136, 3), (48, .ireturn, 1), (49, .aload_n 0, 1), (50, .getfield 74, 3), (53, .invokevirtual 146, 3), (56, .ireturn, 1), (57, .aload_n 0, 1), (58, .getfield 78, 3), (61, .invokevirtual 146, 3), (64, .ireturn, 1), (65, .aload_n 0, 1), (66, .getfield 31, 3), (69, .getfield 185, 3), (72, .ireturn, 1), (73, .iconst (-1), 1), (74, .ireturn, 1)]
theorem dd_F_told : ∀ (i : Nat) (q : Nat × Instr × Nat), tb_F_told[i]? = some q → decode b_F_told q.1 = .ok (q.2.1, q.2.2) := z_tab (by decide +kernel)
theorem d_F_told_0 : decode b_F_told 0 = .ok (.iload_n 1, 1) := dd_F_told 0 (0, .iload_n 1, 1) rfl
theorem d_F_told_1 : decode b_F_told 1 = .ok (.tableswitch 72 0 4 #[35, 40, 48, 56, 64], 35) := dd_F_told 1 (1, .tableswitch 72 0 4 #[35, 40, 48, 56, 64], 35) rfl
theorem d_F_told_36 : decode b_F_told 36 = .ok (.aload_n 0, 1) := dd_F_told 2 (36, .aload_n 0, 1) rfl
theorem d_F_told_37 : decode b_F_told 37 = .ok (.getfield 16, 3) := dd_F_told 3 (37, .getfield 16, 3) rfl
theorem d_F_told_40 : decode b_F_told 40 = .ok (.ireturn, 1) := dd_F_told 4 (40, .ireturn, 1) rfl
theorem d_F_told_41 : decode b_F_told 41 = .ok (.aload_n 0, 1) := dd_F_told 5 (41, .aload_n 0, 1) rfl
theorem d_F_told_42 : decode b_F_told 42 = .ok (.getfield 60, 3) := dd_F_told 6 (42, .getfield 60, 3) rfl
theorem d_F_told_45 : decode b_F_told 45 = .ok (.getfield 136, 3) := dd_F_told 7 (45, .getfield 136, 3) rfl
theorem d_F_told_48 : decode b_F_told 48 = .ok (.ireturn, 1) := dd_F_told 8 (48, .ireturn, 1) rfl
theorem d_F_told_49 : decode b_F_told 49 = .ok (.aload_n 0, 1) := dd_F_told 9 (49, .aload_n 0, 1) rfl
theorem d_F_told_50 : decode b_F_told 50 = .ok (.getfield 74, 3) := dd_F_told 10 (50, .getfield 74, 3) rfl
theorem d_F_told_53 : decode b_F_told 53 = .ok (.invokevirtual 146, 3) := dd_F_told 11 (53, .invokevirtual 146, 3) rfl
theorem d_F_told_56 : decode b_F_told 56 = .ok (.ireturn, 1) := dd_F_told 12 (56, .ireturn, 1) rfl
theorem d_F_told_57 : decode b_F_told 57 = .ok (.aload_n 0, 1) := dd_F_told 13 (57, .aload_n 0, 1) rfl
theorem d_F_told_58 : decode b_F_told 58 = .ok (.getfield 78, 3) := dd_F_told 14 (58, .getfield 78, 3) rfl
theorem d_F_told_61 : decode b_F_told 61 = .ok (.invokevirtual 146, 3) := dd_F_told 15 (61, .invokevirtual 146, 3) rfl
theorem d_F_told_64 : decode b_F_told 64 = .ok (.ireturn, 1) := dd_F_told 16 (64, .ireturn, 1) rfl
theorem d_F_told_65 : decode b_F_told 65 = .ok (.aload_n 0, 1) := dd_F_told 17 (65, .aload_n 0, 1) rfl
theorem d_F_told_66 : decode b_F_told 66 = .ok (.getfield 31, 3) := dd_F_told 18 (66, .getfield 31, 3) rfl
theorem d_F_told_69 : decode b_F_told 69 = .ok (.getfield 185, 3) := dd_F_told 19 (69, .getfield 185, 3) rfl
theorem d_F_told_72 : decode b_F_told 72 = .ok (.ireturn, 1) := dd_F_told 20 (72, .ireturn, 1) rfl
theorem d_F_told_73 : decode b_F_told 73 = .ok (.iconst (-1), 1) := dd_F_told 21 (73, .iconst (-1), 1) rfl
theorem d_F_told_74 : decode b_F_told 74 = .ok (.ireturn, 1) := dd_F_told 22 (74, .ireturn, 1) rfl
def tb_F_clear : List (Nat × Instr × Nat) := [(0, .aload_n 0, 1), (1, .getfield 27, 3), (4, .aload_n 0, 1), (5, .getfield 16, 3), (8, .iconst 0, 1), (9, .invokevirtual 177, 3), (12, .aload_n 0, 1), (13, .getfield 31, 3), (16, .iconst 0, 1), (17, .iconst 0, 1), (18, .invokevirtual 177, 3), (21, .aload_n 0, 1), (22, .getfield 60, 3), (25, .invokevirtual 118, 3), (28, .aload_n 0, 1), (29, .getfield 74, 3), (32, .invokevirtual 121, 3), (35, .aload_n 0, 1), (36, .getfield 78, 3), (39, .invokevirtual 121, 3), (42, .aload_n 0, 1), (43, .getfield 51, 3), (46, .iconst 0, 1), (47, .putfield 212, 3), (50, .return_, 1)]
theorem dd_F_clear : ∀ (i : Nat) (q : Nat × Instr × Nat), tb_F_clear[i]? = some q → decode b_F_clear q.1 = .ok (q.2.1, q.2.2) := z_tab (by decide +kernel)
theorem d_F_clear_0 : decode b_F_clear 0 = .ok (.aload_n 0, 1) := dd_F_clear 0 (0, .aload_n 0, 1) rfl
theorem d_F_clear_1 : decode b_F_clear 1 = .ok (.getfield 27, 3) := dd_F_clear 1 (1, .getfield 27, 3) rfl
theorem d_F_clear_4 : decode b_F_clear 4 = .ok (.aload_n 0, 1) := dd_F_clear 2 (4, .aload_n 0, 1) rfl
theorem d_F_clear_5 : decode b_F_clear 5 = .ok (.getfield 16, 3) := dd_F_clear 3 (5, .getfield 16, 3) rfl
theorem d_F_clear_8 : decode b_F_clear 8 = .ok (.iconst 0, 1) := dd_F_clear 4 (8, .iconst 0, 1) rfl
theorem d_F_clear_9 : decode b_F_clear 9 = .ok (.invokevirtual 177, 3) := dd_F_clear 5 (9, .invokevirtual 177, 3) rfl
theorem d_F_clear_12 : decode b_F_clear 12 = .ok (.aload_n 0, 1) := dd_F_clear 6 (12, .aload_n 0, 1) rfl
theorem d_F_clear_13 : decode b_F_clear 13 = .ok (.getfield 31, 3) := dd_F_clear 7 (13, .getfield 31, 3) rfl
theorem d_F_clear_16 : decode b_F_clear 16 = .ok (.iconst 0, 1) := dd_F_clear 8 (16, .iconst 0, 1) rfl
theorem d_F_clear_17 : decode b_F_clear 17 = .ok (.iconst 0, 1) := dd_F_clear 9 (17, .iconst 0, 1) rfl
theorem d_F_clear_18 : decode b_F_clear 18 = .ok (.invokevirtual 177, 3) := dd_F_clear 10 (18, .invokevirtual 177, 3) rfl
theorem d_F_clear_21 : decode b_F_clear 21 = .ok (.aload_n 0, 1) := dd_F_clear 11 (21, .aload_n 0, 1) rfl
theorem d_F_clear_22 : decode b_F_clear 22 = .ok (.getfield 60, 3) := dd_F_clear 12 (22, .getfield 60, 3) rfl
theorem d_F_clear_25 : decode b_F_clear 25 = .ok (.invokevirtual 118, 3) := dd_F_clear 13 (25, .invokevirtual 118, 3) rfl
theorem d_F_clear_28 : decode b_F_clear 28 = .ok (.aload_n 0, 1) := dd_F_clear 14 (28, .aload_n 0, 1) rfl
theorem d_F_clear_29 : decode b_F_clear 29 = .ok (.getfield 74, 3) := dd_F_clear 15 (29, .getfield 74, 3) rfl
theorem d_F_clear_32 : decode b_F_clear 32 = .ok (.invokevirtual 121, 3) := dd_F_clear 16 (32, .invokevirtual 121, 3) rfl
theorem d_F_clear_35 : decode b_F_clear 35 = .ok (.aload_n 0, 1) := dd_F_clear 17 (35, .aload_n 0, 1) rfl
theorem d_F_clear_36 : decode b_F_clear 36 = .ok (.getfield 78, 3) := dd_F_clear 18 (36, .getfield 78, 3) rfl
theorem d_F_clear_39 : decode b_F_clear 39 = .ok (.invokevirtual 121, 3) := dd_F_clear 19 (39, .invokevirtual 121, 3) rfl
theorem d_F_clear_42 : decode b_F_clear 42 = .ok (.aload_n 0, 1) := dd_F_clear 20 (42, .aload_n 0, 1) rfl
theorem d_F_clear_43 : decode b_F_clear 43 = .ok (.getfield 51, 3) := dd_F_clear 21 (43, .getfield 51, 3) rfl
theorem d_F_clear_46 : decode b_F_clear 46 = .ok (.iconst 0, 1) := dd_F_clear 22 (46, .iconst 0, 1) rfl
theorem d_F_clear_47 : decode b_F_clear 47 = .ok (.putfield 212, 3) := dd_F_clear 23 (47, .putfield 212, 3) rfl
theorem d_F_clear_50 : decode b_F_clear 50 = .ok (.return_, 1) := dd_F_clear 24 (50, .return_, 1) rfl
