def tb_M_domain : List (Nat × Instr × Nat) := [(0, .aload_n 0, 1), (1, .iload_n 1, 1), (2, .invokestatic 129, 3), (5, .ifCond .eq 25, 3), (8, .iconst 2, 1), (9, .iload_n 1, 1), (10, .imul, 1), (11, .aload_n 0, 1), (12, .getfield 46, 3), (15, .if_icmp .gt 15, 3), (18, .iload_n 3, 1), (19, .i2l, 1), (20, .lconst 0, 1), (21, .ldc2_w 157, 3), (24, .invokestatic 55, 3), (27, .ifCond .ne 7, 3), (30, .iconst 1, 1), (31, .goto 4, 3), (34, .iconst 0, 1), (35, .putfield 50, 3), (38, .aload_n 0, 1), (39, .getfield 50, 3), (42, .ifCond .ne 67, 3), (45, .aload_n 0, 1), (46, .iload_n 1, 1), (47, .invokevirtual 69, 3), (50, .aload_n 0, 1), (51, .iload_n 1, 1), (52, .invokevirtual 69, 3), (55, .imul, 1), (56, .istore 6, 2), (58, .aload_n 0, 1), (59, .iload_n 2, 1), (60, .i2l, 1), (61, .lconst 0, 1), (62, .iload 6, 2), (64, .iconst 1, 1), (65, .isub, 1), (66, .i2l, 1), (67, .invokestatic 55, 3), (70, .ifCond .eq 35, 3), (73, .iload 4, 2), (75, .i2l, 1), (76, .lconst 0, 1), (77, .iload_n 1, 1), (78, .iconst 1, 1), (79, .isub, 1), (80, .i2l, 1), (81, .invokestatic 55, 3), (84, .ifCond .eq 21, 3), (87, .iload 5, 2), (89, .i2l, 1), (90, .lconst 0, 1), (91, .iload_n 1, 1), (92, .iconst 1, 1), (93, .isub, 1), (94, .i2l, 1), (95, .invokestatic 55, 3), (98, .ifCond .eq 7, 3), (101, .iconst 0, 1), (102, .goto 4, 3), (105, .iconst 2, 1), (106, .putfield 50, 3), (109, .aload_n 0, 1), (110, .getfield 50, 3), (113, .ifCond .le 5, 3), (116, .iconst 0, 1), (117, .ireturn, 1), (118, .aload_n 0, 1), (119, .getfield 7, 3), (122, .aload_n 0, 1), (123, .getfield 46, 3), (126, .aload_n 0, 1), (127, .getfield 13, 3), (130, .invokestatic 133, 3), (133, .aload_n 0, 1), (134, .iload_n 1, 1), (135, .iload_n 2, 1), (136, .iload_n 3, 1), (137, .invokevirtual 105, 3), (140, .aload_n 0, 1), (141, .getfield 37, 3), (144, .iload_n 1, 1), (145, .iload 5, 2), (147, .imul, 1), (148, .iload 4, 2), (150, .iadd, 1), (151, .iaload, 1), (152, .ireturn, 1)]
theorem dd_M_domain : ∀ (i : Nat) (q : Nat × Instr × Nat), tb_M_domain[i]? = some q → decode b_M_domain q.1 = .ok (q.2.1, q.2.2) := z_tab (by decide +kernel)
theorem d_M_domain_0 : decode b_M_domain 0 = .ok (.aload_n 0, 1) := dd_M_domain 0 (0, .aload_n 0, 1) rfl
theorem d_M_domain_1 : decode b_M_domain 1 = .ok (.iload_n 1, 1) := dd_M_domain 1 (1, .iload_n 1, 1) rfl
theorem d_M_domain_2 : decode b_M_domain 2 = .ok (.invokestatic 129, 3) := dd_M_domain 2 (2, .invokestatic 129, 3) rfl
theorem d_M_domain_5 : decode b_M_domain 5 = .ok (.ifCond .eq 25, 3) := dd_M_domain 3 (5, .ifCond .eq 25, 3) rfl
theorem d_M_domain_8 : decode b_M_domain 8 = .ok (.iconst 2, 1) := dd_M_domain 4 (8, .iconst 2, 1) rfl
theorem d_M_domain_9 : decode b_M_domain 9 = .ok (.iload_n 1, 1) := dd_M_domain 5 (9, .iload_n 1, 1) rfl
theorem d_M_domain_10 : decode b_M_domain 10 = .ok (.imul, 1) := dd_M_domain 6 (10, .imul, 1) rfl
theorem d_M_domain_11 : decode b_M_domain 11 = .ok (.aload_n 0, 1) := dd_M_domain 7 (11, .aload_n 0, 1) rfl
theorem d_M_domain_12 : decode b_M_domain 12 = .ok (.getfield 46, 3) := dd_M_domain 8 (12, .getfield 46, 3) rfl
theorem d_M_domain_15 : decode b_M_domain 15 = .ok (.if_icmp .gt 15, 3) := dd_M_domain 9 (15, .if_icmp .gt 15, 3) rfl
theorem d_M_domain_18 : decode b_M_domain 18 = .ok (.iload_n 3, 1) := dd_M_domain 10 (18, .iload_n 3, 1) rfl
theorem d_M_domain_19 : decode b_M_domain 19 = .ok (.i2l, 1) := dd_M_domain 11 (19, .i2l, 1) rfl
theorem d_M_domain_20 : decode b_M_domain 20 = .ok (.lconst 0, 1) := dd_M_domain 12 (20, .lconst 0, 1) rfl
theorem d_M_domain_21 : decode b_M_domain 21 = .ok (.ldc2_w 157, 3) := dd_M_domain 13 (21, .ldc2_w 157, 3) rfl
theorem d_M_domain_24 : decode b_M_domain 24 = .ok (.invokestatic 55, 3) := dd_M_domain 14 (24, .invokestatic 55, 3) rfl
theorem d_M_domain_27 : decode b_M_domain 27 = .ok (.ifCond .ne 7, 3) := dd_M_domain 15 (27, .ifCond .ne 7, 3) rfl
theorem d_M_domain_30 : decode b_M_domain 30 = .ok (.iconst 1, 1) := dd_M_domain 16 (30, .iconst 1, 1) rfl
theorem d_M_domain_31 : decode b_M_domain 31 = .ok (.goto 4, 3) := dd_M_domain 17 (31, .goto 4, 3) rfl
theorem d_M_domain_34 : decode b_M_domain 34 = .ok (.iconst 0, 1) := dd_M_domain 18 (34, .iconst 0, 1) rfl
theorem d_M_domain_35 : decode b_M_domain 35 = .ok (.putfield 50, 3) := dd_M_domain 19 (35, .putfield 50, 3) rfl
theorem d_M_domain_38 : decode b_M_domain 38 = .ok (.aload_n 0, 1) := dd_M_domain 20 (38, .aload_n 0, 1) rfl
theorem d_M_domain_39 : decode b_M_domain 39 = .ok (.getfield 50, 3) := dd_M_domain 21 (39, .getfield 50, 3) rfl
theorem d_M_domain_42 : decode b_M_domain 42 = .ok (.ifCond .ne 67, 3) := dd_M_domain 22 (42, .ifCond .ne 67, 3) rfl
theorem d_M_domain_45 : decode b_M_domain 45 = .ok (.aload_n 0, 1) := dd_M_domain 23 (45, .aload_n 0, 1) rfl
theorem d_M_domain_46 : decode b_M_domain 46 = .ok (.iload_n 1, 1) := dd_M_domain 24 (46, .iload_n 1, 1) rfl
theorem d_M_domain_47 : decode b_M_domain 47 = .ok (.invokevirtual 69, 3) := dd_M_domain 25 (47, .invokevirtual 69, 3) rfl
theorem d_M_domain_50 : decode b_M_domain 50 = .ok (.aload_n 0, 1) := dd_M_domain 26 (50, .aload_n 0, 1) rfl
theorem d_M_domain_51 : decode b_M_domain 51 = .ok (.iload_n 1, 1) := dd_M_domain 27 (51, .iload_n 1, 1) rfl
theorem d_M_domain_52 : decode b_M_domain 52 = .ok (.invokevirtual 69, 3) := dd_M_domain 28 (52, .invokevirtual 69, 3) rfl
theorem d_M_domain_55 : decode b_M_domain 55 = .ok (.imul, 1) := dd_M_domain 29 (55, .imul, 1) rfl
theorem d_M_domain_56 : decode b_M_domain 56 = .ok (.istore 6, 2) := dd_M_domain 30 (56, .istore 6, 2) rfl
theorem d_M_domain_58 : decode b_M_domain 58 = .ok (.aload_n 0, 1) := dd_M_domain 31 (58, .aload_n 0, 1) rfl
theorem d_M_domain_59 : decode b_M_domain 59 = .ok (.iload_n 2, 1) := dd_M_domain 32 (59, .iload_n 2, 1) rfl
theorem d_M_domain_60 : decode b_M_domain 60 = .ok (.i2l, 1) := dd_M_domain 33 (60, .i2l, 1) rfl
theorem d_M_domain_61 : decode b_M_domain 61 = .ok (.lconst 0, 1) := dd_M_domain 34 (61, .lconst 0, 1) rfl
theorem d_M_domain_62 : decode b_M_domain 62 = .ok (.iload 6, 2) := dd_M_domain 35 (62, .iload 6, 2) rfl
theorem d_M_domain_64 : decode b_M_domain 64 = .ok (.iconst 1, 1) := dd_M_domain 36 (64, .iconst 1, 1) rfl
theorem d_M_domain_65 : decode b_M_domain 65 = .ok (.isub, 1) := dd_M_domain 37 (65, .isub, 1) rfl
theorem d_M_domain_66 : decode b_M_domain 66 = .ok (.i2l, 1) := dd_M_domain 38 (66, .i2l, 1) rfl
theorem d_M_domain_67 : decode b_M_domain 67 = .ok (.invokestatic 55, 3) := dd_M_domain 39 (67, .invokestatic 55, 3) rfl
theorem d_M_domain_70 : decode b_M_domain 70 = .ok (.ifCond .eq 35, 3) := dd_M_domain 40 (70, .ifCond .eq 35, 3) rfl
theorem d_M_domain_73 : decode b_M_domain 73 = .ok (.iload 4, 2) := dd_M_domain 41 (73, .iload 4, 2) rfl
theorem d_M_domain_75 : decode b_M_domain 75 = .ok (.i2l, 1) := dd_M_domain 42 (75, .i2l, 1) rfl
theorem d_M_domain_76 : decode b_M_domain 76 = .ok (.lconst 0, 1) := dd_M_domain 43 (76, .lconst 0, 1) rfl
theorem d_M_domain_77 : decode b_M_domain 77 = .ok (.iload_n 1, 1) := dd_M_domain 44 (77, .iload_n 1, 1) rfl
theorem d_M_domain_78 : decode b_M_domain 78 = .ok (.iconst 1, 1) := dd_M_domain 45 (78, .iconst 1, 1) rfl
theorem d_M_domain_79 : decode b_M_domain 79 = .ok (.isub, 1) := dd_M_domain 46 (79, .isub, 1) rfl
theorem d_M_domain_80 : decode b_M_domain 80 = .ok (.i2l, 1) := dd_M_domain 47 (80, .i2l, 1) rfl
theorem d_M_domain_81 : decode b_M_domain 81 = .ok (.invokestatic 55, 3) := dd_M_domain 48 (81, .invokestatic 55, 3) rfl
theorem d_M_domain_84 : decode b_M_domain 84 = .ok (.ifCond .eq 21, 3) := dd_M_domain 49 (84, .ifCond .eq 21, 3) rfl
theorem d_M_domain_87 : decode b_M_domain 87 = .ok (.iload 5, 2) := dd_M_domain 50 (87, .iload 5, 2) rfl
theorem d_M_domain_89 : decode b_M_domain 89 = .ok (.i2l, 1) := dd_M_domain 51 (89, .i2l, 1) rfl
theorem d_M_domain_90 : decode b_M_domain 90 = .ok (.lconst 0, 1) := dd_M_domain 52 (90, .lconst 0, 1) rfl
theorem d_M_domain_91 : decode b_M_domain 91 = .ok (.iload_n 1, 1) := dd_M_domain 53 (91, .iload_n 1, 1) rfl
theorem d_M_domain_92 : decode b_M_domain 92 = .ok (.iconst 1, 1) := dd_M_domain 54 (92, .iconst 1, 1) rfl
theorem d_M_domain_93 : decode b_M_domain 93 = .ok (.isub, 1) := dd_M_domain 55 (93, .isub, 1) rfl
theorem d_M_domain_94 : decode b_M_domain 94 = .ok (.i2l, 1) := dd_M_domain 56 (94, .i2l, 1) rfl
theorem d_M_domain_95 : decode b_M_domain 95 = .ok (.invokestatic 55, 3) := dd_M_domain 57 (95, .invokestatic 55, 3) rfl
theorem d_M_domain_98 : decode b_M_domain 98 = .ok (.ifCond .eq 7, 3) := dd_M_domain 58 (98, .ifCond .eq 7, 3) rfl
theorem d_M_domain_101 : decode b_M_domain 101 = .ok (.iconst 0, 1) := dd_M_domain 59 (101, .iconst 0, 1) rfl
theorem d_M_domain_102 : decode b_M_domain 102 = .ok (.goto 4, 3) := dd_M_domain 60 (102, .goto 4, 3) rfl
theorem d_M_domain_105 : decode b_M_domain 105 = .ok (.iconst 2, 1) := dd_M_domain 61 (105, .iconst 2, 1) rfl
theorem d_M_domain_106 : decode b_M_domain 106 = .ok (.putfield 50, 3) := dd_M_domain 62 (106, .putfield 50, 3) rfl
theorem d_M_domain_109 : decode b_M_domain 109 = .ok (.aload_n 0, 1) := dd_M_domain 63 (109, .aload_n 0, 1) rfl
theorem d_M_domain_110 : decode b_M_domain 110 = .ok (.getfield 50, 3) := dd_M_domain 64 (110, .getfield 50, 3) rfl
theorem d_M_domain_113 : decode b_M_domain 113 = .ok (.ifCond .le 5, 3) := dd_M_domain 65 (113, .ifCond .le 5, 3) rfl
theorem d_M_domain_116 : decode b_M_domain 116 = .ok (.iconst 0, 1) := dd_M_domain 66 (116, .iconst 0, 1) rfl
theorem d_M_domain_117 : decode b_M_domain 117 = .ok (.ireturn, 1) := dd_M_domain 67 (117, .ireturn, 1) rfl
theorem d_M_domain_118 : decode b_M_domain 118 = .ok (.aload_n 0, 1) := dd_M_domain 68 (118, .aload_n 0, 1) rfl
theorem d_M_domain_119 : decode b_M_domain 119 = .ok (.getfield 7, 3) := dd_M_domain 69 (119, .getfield 7, 3) rfl
theorem d_M_domain_122 : decode b_M_domain 122 = .ok (.aload_n 0, 1) := dd_M_domain 70 (122, .aload_n 0, 1) rfl
theorem d_M_domain_123 : decode b_M_domain 123 = .ok (.getfield 46, 3) := dd_M_domain 71 (123, .getfield 46, 3) rfl
theorem d_M_domain_126 : decode b_M_domain 126 = .ok (.aload_n 0, 1) := dd_M_domain 72 (126, .aload_n 0, 1) rfl
theorem d_M_domain_127 : decode b_M_domain 127 = .ok (.getfield 13, 3) := dd_M_domain 73 (127, .getfield 13, 3) rfl
theorem d_M_domain_130 : decode b_M_domain 130 = .ok (.invokestatic 133, 3) := dd_M_domain 74 (130, .invokestatic 133, 3) rfl
theorem d_M_domain_133 : decode b_M_domain 133 = .ok (.aload_n 0, 1) := dd_M_domain 75 (133, .aload_n 0, 1) rfl
theorem d_M_domain_134 : decode b_M_domain 134 = .ok (.iload_n 1, 1) := dd_M_domain 76 (134, .iload_n 1, 1) rfl
theorem d_M_domain_135 : decode b_M_domain 135 = .ok (.iload_n 2, 1) := dd_M_domain 77 (135, .iload_n 2, 1) rfl
theorem d_M_domain_136 : decode b_M_domain 136 = .ok (.iload_n 3, 1) := dd_M_domain 78 (136, .iload_n 3, 1) rfl
theorem d_M_domain_137 : decode b_M_domain 137 = .ok (.invokevirtual 105, 3) := dd_M_domain 79 (137, .invokevirtual 105, 3) rfl
theorem d_M_domain_140 : decode b_M_domain 140 = .ok (.aload_n 0, 1) := dd_M_domain 80 (140, .aload_n 0, 1) rfl
theorem d_M_domain_141 : decode b_M_domain 141 = .ok (.getfield 37, 3) := dd_M_domain 81 (141, .getfield 37, 3) rfl
theorem d_M_domain_144 : decode b_M_domain 144 = .ok (.iload_n 1, 1) := dd_M_domain 82 (144, .iload_n 1, 1) rfl
theorem d_M_domain_145 : decode b_M_domain 145 = .ok (.iload 5, 2) := dd_M_domain 83 (145, .iload 5, 2) rfl
theorem d_M_domain_147 : decode b_M_domain 147 = .ok (.imul, 1) := dd_M_domain 84 (147, .imul, 1) rfl
theorem d_M_domain_148 : decode b_M_domain 148 = .ok (.iload 4, 2) := dd_M_domain 85 (148, .iload 4, 2) rfl
theorem d_M_domain_150 : decode b_M_domain 150 = .ok (.iadd, 1) := dd_M_domain 86 (150, .iadd, 1) rfl
theorem d_M_domain_151 : decode b_M_domain 151 = .ok (.iaload, 1) := dd_M_domain 87 (151, .iaload, 1) rfl
theorem d_M_domain_152 : decode b_M_domain 152 = .ok (.ireturn, 1) := dd_M_domain 88 (152, .ireturn, 1) rfl
def tb_M_kind : List (Nat × Instr × Nat) := [(0, .aload_n 0, 1), (1, .iload_n 3, 1), (2, .invokestatic 129, 3), (5, .ifCond .ne 7, 3), (8, .iconst 1, 1), (9, .goto 40, 3), (12, .iload_n 1, 1), (13, .i2l, 1), (14, .lconst 0, 1), (15, .aload_n 0, 1), (16, .getfield 46, 3), (19, .iload_n 3, 1), (20, .isub, 1), (21, .i2l, 1), (22, .invokestatic 55, 3), (25, .ifCond .eq 19, 3), (28, .iload_n 2, 1), (29, .i2l, 1), (30, .lconst 0, 1), (31, .aload_n 0, 1), (32, .getfield 46, 3), (35, .iload_n 3, 1), (36, .isub, 1), (37, .i2l, 1), (38, .invokestatic 55, 3), (41, .ifCond .ne 7, 3), (44, .iconst 2, 1), (45, .goto 4, 3), (48, .iconst 0, 1), (49, .putfield 50, 3), (52, .aload_n 0, 1), (53, .getfield 50, 3), (56, .ifCond .le 5, 3), (59, .iconst 0, 1), (60, .ireturn, 1), (61, .aload_n 0, 1), (62, .iload_n 1, 1), (63, .iload_n 2, 1), (64, .iload_n 3, 1), (65, .invokevirtual 95, 3), (68, .aload_n 0, 1), (69, .getfield 40, 3), (72, .iload_n 3, 1), (73, .invokestatic 99, 3), (76, .ireturn, 1)]
theorem dd_M_kind : ∀ (i : Nat) (q : Nat × Instr × Nat), tb_M_kind[i]? = some q → decode b_M_kind q.1 = .ok (q.2.1, q.2.2) := z_tab (by decide +kernel)
theorem d_M_kind_0 : decode b_M_kind 0 = .ok (.aload_n 0, 1) := dd_M_kind 0 (0, .aload_n 0, 1) rfl
theorem d_M_kind_1 : decode b_M_kind 1 = .ok (.iload_n 3, 1) := dd_M_kind 1 (1, .iload_n 3, 1) rfl
theorem d_M_kind_2 : decode b_M_kind 2 = .ok (.invokestatic 129, 3) := dd_M_kind 2 (2, .invokestatic 129, 3) rfl
theorem d_M_kind_5 : decode b_M_kind 5 = .ok (.ifCond .ne 7, 3) := dd_M_kind 3 (5, .ifCond .ne 7, 3) rfl
theorem d_M_kind_8 : decode b_M_kind 8 = .ok (.iconst 1, 1) := dd_M_kind 4 (8, .iconst 1, 1) rfl
theorem d_M_kind_9 : decode b_M_kind 9 = .ok (.goto 40, 3) := dd_M_kind 5 (9, .goto 40, 3) rfl
theorem d_M_kind_12 : decode b_M_kind 12 = .ok (.iload_n 1, 1) := dd_M_kind 6 (12, .iload_n 1, 1) rfl
theorem d_M_kind_13 : decode b_M_kind 13 = .ok (.i2l, 1) := dd_M_kind 7 (13, .i2l, 1) rfl
theorem d_M_kind_14 : decode b_M_kind 14 = .ok (.lconst 0, 1) := dd_M_kind 8 (14, .lconst 0, 1) rfl
theorem d_M_kind_15 : decode b_M_kind 15 = .ok (.aload_n 0, 1) := dd_M_kind 9 (15, .aload_n 0, 1) rfl
theorem d_M_kind_16 : decode b_M_kind 16 = .ok (.getfield 46, 3) := dd_M_kind 10 (16, .getfield 46, 3) rfl
theorem d_M_kind_19 : decode b_M_kind 19 = .ok (.iload_n 3, 1) := dd_M_kind 11 (19, .iload_n 3, 1) rfl
theorem d_M_kind_20 : decode b_M_kind 20 = .ok (.isub, 1) := dd_M_kind 12 (20, .isub, 1) rfl
theorem d_M_kind_21 : decode b_M_kind 21 = .ok (.i2l, 1) := dd_M_kind 13 (21, .i2l, 1) rfl
theorem d_M_kind_22 : decode b_M_kind 22 = .ok (.invokestatic 55, 3) := dd_M_kind 14 (22, .invokestatic 55, 3) rfl
theorem d_M_kind_25 : decode b_M_kind 25 = .ok (.ifCond .eq 19, 3) := dd_M_kind 15 (25, .ifCond .eq 19, 3) rfl
theorem d_M_kind_28 : decode b_M_kind 28 = .ok (.iload_n 2, 1) := dd_M_kind 16 (28, .iload_n 2, 1) rfl
theorem d_M_kind_29 : decode b_M_kind 29 = .ok (.i2l, 1) := dd_M_kind 17 (29, .i2l, 1) rfl
theorem d_M_kind_30 : decode b_M_kind 30 = .ok (.lconst 0, 1) := dd_M_kind 18 (30, .lconst 0, 1) rfl
theorem d_M_kind_31 : decode b_M_kind 31 = .ok (.aload_n 0, 1) := dd_M_kind 19 (31, .aload_n 0, 1) rfl
theorem d_M_kind_32 : decode b_M_kind 32 = .ok (.getfield 46, 3) := dd_M_kind 20 (32, .getfield 46, 3) rfl
theorem d_M_kind_35 : decode b_M_kind 35 = .ok (.iload_n 3, 1) := dd_M_kind 21 (35, .iload_n 3, 1) rfl
theorem d_M_kind_36 : decode b_M_kind 36 = .ok (.isub, 1) := dd_M_kind 22 (36, .isub, 1) rfl
theorem d_M_kind_37 : decode b_M_kind 37 = .ok (.i2l, 1) := dd_M_kind 23 (37, .i2l, 1) rfl
theorem d_M_kind_38 : decode b_M_kind 38 = .ok (.invokestatic 55, 3) := dd_M_kind 24 (38, .invokestatic 55, 3) rfl
theorem d_M_kind_41 : decode b_M_kind 41 = .ok (.ifCond .ne 7, 3) := dd_M_kind 25 (41, .ifCond .ne 7, 3) rfl
theorem d_M_kind_44 : decode b_M_kind 44 = .ok (.iconst 2, 1) := dd_M_kind 26 (44, .iconst 2, 1) rfl
theorem d_M_kind_45 : decode b_M_kind 45 = .ok (.goto 4, 3) := dd_M_kind 27 (45, .goto 4, 3) rfl
theorem d_M_kind_48 : decode b_M_kind 48 = .ok (.iconst 0, 1) := dd_M_kind 28 (48, .iconst 0, 1) rfl
theorem d_M_kind_49 : decode b_M_kind 49 = .ok (.putfield 50, 3) := dd_M_kind 29 (49, .putfield 50, 3) rfl
theorem d_M_kind_52 : decode b_M_kind 52 = .ok (.aload_n 0, 1) := dd_M_kind 30 (52, .aload_n 0, 1) rfl
theorem d_M_kind_53 : decode b_M_kind 53 = .ok (.getfield 50, 3) := dd_M_kind 31 (53, .getfield 50, 3) rfl
theorem d_M_kind_56 : decode b_M_kind 56 = .ok (.ifCond .le 5, 3) := dd_M_kind 32 (56, .ifCond .le 5, 3) rfl
theorem d_M_kind_59 : decode b_M_kind 59 = .ok (.iconst 0, 1) := dd_M_kind 33 (59, .iconst 0, 1) rfl
theorem d_M_kind_60 : decode b_M_kind 60 = .ok (.ireturn, 1) := dd_M_kind 34 (60, .ireturn, 1) rfl
theorem d_M_kind_61 : decode b_M_kind 61 = .ok (.aload_n 0, 1) := dd_M_kind 35 (61, .aload_n 0, 1) rfl
theorem d_M_kind_62 : decode b_M_kind 62 = .ok (.iload_n 1, 1) := dd_M_kind 36 (62, .iload_n 1, 1) rfl
theorem d_M_kind_63 : decode b_M_kind 63 = .ok (.iload_n 2, 1) := dd_M_kind 37 (63, .iload_n 2, 1) rfl
theorem d_M_kind_64 : decode b_M_kind 64 = .ok (.iload_n 3, 1) := dd_M_kind 38 (64, .iload_n 3, 1) rfl
theorem d_M_kind_65 : decode b_M_kind 65 = .ok (.invokevirtual 95, 3) := dd_M_kind 39 (65, .invokevirtual 95, 3) rfl
theorem d_M_kind_68 : decode b_M_kind 68 = .ok (.aload_n 0, 1) := dd_M_kind 40 (68, .aload_n 0, 1) rfl
theorem d_M_kind_69 : decode b_M_kind 69 = .ok (.getfield 40, 3) := dd_M_kind 41 (69, .getfield 40, 3) rfl
theorem d_M_kind_72 : decode b_M_kind 72 = .ok (.iload_n 3, 1) := dd_M_kind 42 (72, .iload_n 3, 1) rfl
theorem d_M_kind_73 : decode b_M_kind 73 = .ok (.invokestatic 99, 3) := dd_M_kind 43 (73, .invokestatic 99, 3) rfl
theorem d_M_kind_76 : decode b_M_kind 76 = .ok (.ireturn, 1) := dd_M_kind 44 (76, .ireturn, 1) rfl
def tb_M_tried : List (Nat × Instr × Nat) := [(0, .aload_n 0, 1), (1, .iconst 0, 1), (2, .putfield 50, 3), (5, .aload_n 0, 1), (6, .getfield 108, 3), (9, .ireturn, 1)]
theorem dd_M_tried : ∀ (i : Nat) (q : Nat × Instr × Nat), tb_M_tried[i]? = some q → decode b_M_tried q.1 = .ok (q.2.1, q.2.2) := z_tab (by decide +kernel)
theorem d_M_tried_0 : decode b_M_tried 0 = .ok (.aload_n 0, 1) := dd_M_tried 0 (0, .aload_n 0, 1) rfl
theorem d_M_tried_1 : decode b_M_tried 1 = .ok (.iconst 0, 1) := dd_M_tried 1 (1, .iconst 0, 1) rfl
theorem d_M_tried_2 : decode b_M_tried 2 = .ok (.putfield 50, 3) := dd_M_tried 2 (2, .putfield 50, 3) rfl
theorem d_M_tried_5 : decode b_M_tried 5 = .ok (.aload_n 0, 1) := dd_M_tried 3 (5, .aload_n 0, 1) rfl
theorem d_M_tried_6 : decode b_M_tried 6 = .ok (.getfield 108, 3) := dd_M_tried 4 (6, .getfield 108, 3) rfl
theorem d_M_tried_9 : decode b_M_tried 9 = .ok (.ireturn, 1) := dd_M_tried 5 (9, .ireturn, 1) rfl
def tb_M_told : List (Nat × Instr × Nat) := [(0, .aload_n 0, 1), (1, .iconst 0, 1), (2, .putfield 50, 3), (5, .iload_n 1, 1), (6, .tableswitch 59 0 4 #[34, 39, 44, 49, 54], 34), (40, .aload_n 0, 1), (41, .getfield 46, 3), (44, .ireturn, 1), (45, .aload_n 0, 1), (46, .getfield 123, 3), (49, .ireturn, 1), (50, .aload_n 0, 1), (51, .invokevirtual 159, 3), (54, .ireturn, 1), (55, .aload_n 0, 1), (56, .getfield 163, 3), (59, .ireturn, 1), (60, .aload_n 0, 1), (61, .getfield 185, 3), (64, .ireturn, 1), (65, .iconst (-1), 1), (66, .ireturn, 1)]
theorem dd_M_told : ∀ (i : Nat) (q : Nat × Instr × Nat), tb_M_told[i]? = some q → decode b_M_told q.1 = .ok (q.2.1, q.2.2) := z_tab (by decide +kernel)
theorem d_M_told_0 : decode b_M_told 0 = .ok (.aload_n 0, 1) := dd_M_told 0 (0, .aload_n 0, 1) rfl
theorem d_M_told_1 : decode b_M_told 1 = .ok (.iconst 0, 1) := dd_M_told 1 (1, .iconst 0, 1) rfl
theorem d_M_told_2 : decode b_M_told 2 = .ok (.putfield 50, 3) := dd_M_told 2 (2, .putfield 50, 3) rfl
theorem d_M_told_5 : decode b_M_told 5 = .ok (.iload_n 1, 1) := dd_M_told 3 (5, .iload_n 1, 1) rfl
theorem d_M_told_6 : decode b_M_told 6 = .ok (.tableswitch 59 0 4 #[34, 39, 44, 49, 54], 34) := dd_M_told 4 (6, .tableswitch 59 0 4 #[34, 39, 44, 49, 54], 34) rfl
theorem d_M_told_40 : decode b_M_told 40 = .ok (.aload_n 0, 1) := dd_M_told 5 (40, .aload_n 0, 1) rfl
theorem d_M_told_41 : decode b_M_told 41 = .ok (.getfield 46, 3) := dd_M_told 6 (41, .getfield 46, 3) rfl
theorem d_M_told_44 : decode b_M_told 44 = .ok (.ireturn, 1) := dd_M_told 7 (44, .ireturn, 1) rfl
theorem d_M_told_45 : decode b_M_told 45 = .ok (.aload_n 0, 1) := dd_M_told 8 (45, .aload_n 0, 1) rfl
theorem d_M_told_46 : decode b_M_told 46 = .ok (.getfield 123, 3) := dd_M_told 9 (46, .getfield 123, 3) rfl
theorem d_M_told_49 : decode b_M_told 49 = .ok (.ireturn, 1) := dd_M_told 10 (49, .ireturn, 1) rfl
theorem d_M_told_50 : decode b_M_told 50 = .ok (.aload_n 0, 1) := dd_M_told 11 (50, .aload_n 0, 1) rfl
theorem d_M_told_51 : decode b_M_told 51 = .ok (.invokevirtual 159, 3) := dd_M_told 12 (51, .invokevirtual 159, 3) rfl
theorem d_M_told_54 : decode b_M_told 54 = .ok (.ireturn, 1) := dd_M_told 13 (54, .ireturn, 1) rfl
theorem d_M_told_55 : decode b_M_told 55 = .ok (.aload_n 0, 1) := dd_M_told 14 (55, .aload_n 0, 1) rfl
theorem d_M_told_56 : decode b_M_told 56 = .ok (.getfield 163, 3) := dd_M_told 15 (56, .getfield 163, 3) rfl
theorem d_M_told_59 : decode b_M_told 59 = .ok (.ireturn, 1) := dd_M_told 16 (59, .ireturn, 1) rfl
theorem d_M_told_60 : decode b_M_told 60 = .ok (.aload_n 0, 1) := dd_M_told 17 (60, .aload_n 0, 1) rfl
theorem d_M_told_61 : decode b_M_told 61 = .ok (.getfield 185, 3) := dd_M_told 18 (61, .getfield 185, 3) rfl
theorem d_M_told_64 : decode b_M_told 64 = .ok (.ireturn, 1) := dd_M_told 19 (64, .ireturn, 1) rfl
theorem d_M_told_65 : decode b_M_told 65 = .ok (.iconst (-1), 1) := dd_M_told 20 (65, .iconst (-1), 1) rfl
theorem d_M_told_66 : decode b_M_told 66 = .ok (.ireturn, 1) := dd_M_told 21 (66, .ireturn, 1) rfl
def tb_M_clear : List (Nat × Instr × Nat) := [(0, .aload_n 0, 1), (1, .iconst 0, 1), (2, .putfield 50, 3), (5, .iconst 0, 1), (6, .istore_n 1, 1), (7, .iload_n 1, 1), (8, .sipush 1024, 3), (11, .if_icmp .ge 16, 3), (14, .aload_n 0, 1), (15, .getfield 7, 3), (18, .iload_n 1, 1), (19, .iconst 0, 1), (20, .iastore, 1), (21, .iinc 1 1, 3), (24, .goto (-17), 3), (27, .aload_n 0, 1), (28, .iconst 0, 1), (29, .putfield 123, 3), (32, .aload_n 0, 1), (33, .iconst 0, 1), (34, .putfield 126, 3), (37, .aload_n 0, 1), (38, .iconst 0, 1), (39, .putfield 163, 3), (42, .aload_n 0, 1), (43, .iconst 0, 1), (44, .putfield 108, 3), (47, .aload_n 0, 1), (48, .iconst 0, 1), (49, .putfield 185, 3), (52, .return_, 1)]
theorem dd_M_clear : ∀ (i : Nat) (q : Nat × Instr × Nat), tb_M_clear[i]? = some q → decode b_M_clear q.1 = .ok (q.2.1, q.2.2) := z_tab (by decide +kernel)
theorem d_M_clear_0 : decode b_M_clear 0 = .ok (.aload_n 0, 1) := dd_M_clear 0 (0, .aload_n 0, 1) rfl
theorem d_M_clear_1 : decode b_M_clear 1 = .ok (.iconst 0, 1) := dd_M_clear 1 (1, .iconst 0, 1) rfl
theorem d_M_clear_2 : decode b_M_clear 2 = .ok (.putfield 50, 3) := dd_M_clear 2 (2, .putfield 50, 3) rfl
theorem d_M_clear_5 : decode b_M_clear 5 = .ok (.iconst 0, 1) := dd_M_clear 3 (5, .iconst 0, 1) rfl
theorem d_M_clear_6 : decode b_M_clear 6 = .ok (.istore_n 1, 1) := dd_M_clear 4 (6, .istore_n 1, 1) rfl
theorem d_M_clear_7 : decode b_M_clear 7 = .ok (.iload_n 1, 1) := dd_M_clear 5 (7, .iload_n 1, 1) rfl
theorem d_M_clear_8 : decode b_M_clear 8 = .ok (.sipush 1024, 3) := dd_M_clear 6 (8, .sipush 1024, 3) rfl
theorem d_M_clear_11 : decode b_M_clear 11 = .ok (.if_icmp .ge 16, 3) := dd_M_clear 7 (11, .if_icmp .ge 16, 3) rfl
theorem d_M_clear_14 : decode b_M_clear 14 = .ok (.aload_n 0, 1) := dd_M_clear 8 (14, .aload_n 0, 1) rfl
theorem d_M_clear_15 : decode b_M_clear 15 = .ok (.getfield 7, 3) := dd_M_clear 9 (15, .getfield 7, 3) rfl
theorem d_M_clear_18 : decode b_M_clear 18 = .ok (.iload_n 1, 1) := dd_M_clear 10 (18, .iload_n 1, 1) rfl
theorem d_M_clear_19 : decode b_M_clear 19 = .ok (.iconst 0, 1) := dd_M_clear 11 (19, .iconst 0, 1) rfl
theorem d_M_clear_20 : decode b_M_clear 20 = .ok (.iastore, 1) := dd_M_clear 12 (20, .iastore, 1) rfl
theorem d_M_clear_21 : decode b_M_clear 21 = .ok (.iinc 1 1, 3) := dd_M_clear 13 (21, .iinc 1 1, 3) rfl
theorem d_M_clear_24 : decode b_M_clear 24 = .ok (.goto (-17), 3) := dd_M_clear 14 (24, .goto (-17), 3) rfl
theorem d_M_clear_27 : decode b_M_clear 27 = .ok (.aload_n 0, 1) := dd_M_clear 15 (27, .aload_n 0, 1) rfl
theorem d_M_clear_28 : decode b_M_clear 28 = .ok (.iconst 0, 1) := dd_M_clear 16 (28, .iconst 0, 1) rfl
theorem d_M_clear_29 : decode b_M_clear 29 = .ok (.putfield 123, 3) := dd_M_clear 17 (29, .putfield 123, 3) rfl
theorem d_M_clear_32 : decode b_M_clear 32 = .ok (.aload_n 0, 1) := dd_M_clear 18 (32, .aload_n 0, 1) rfl
theorem d_M_clear_33 : decode b_M_clear 33 = .ok (.iconst 0, 1) := dd_M_clear 19 (33, .iconst 0, 1) rfl
theorem d_M_clear_34 : decode b_M_clear 34 = .ok (.putfield 126, 3) := dd_M_clear 20 (34, .putfield 126, 3) rfl
theorem d_M_clear_37 : decode b_M_clear 37 = .ok (.aload_n 0, 1) := dd_M_clear 21 (37, .aload_n 0, 1) rfl
theorem d_M_clear_38 : decode b_M_clear 38 = .ok (.iconst 0, 1) := dd_M_clear 22 (38, .iconst 0, 1) rfl
theorem d_M_clear_39 : decode b_M_clear 39 = .ok (.putfield 163, 3) := dd_M_clear 23 (39, .putfield 163, 3) rfl
theorem d_M_clear_42 : decode b_M_clear 42 = .ok (.aload_n 0, 1) := dd_M_clear 24 (42, .aload_n 0, 1) rfl
theorem d_M_clear_43 : decode b_M_clear 43 = .ok (.iconst 0, 1) := dd_M_clear 25 (43, .iconst 0, 1) rfl
theorem d_M_clear_44 : decode b_M_clear 44 = .ok (.putfield 108, 3) := dd_M_clear 26 (44, .putfield 108, 3) rfl
theorem d_M_clear_47 : decode b_M_clear 47 = .ok (.aload_n 0, 1) := dd_M_clear 27 (47, .aload_n 0, 1) rfl
theorem d_M_clear_48 : decode b_M_clear 48 = .ok (.iconst 0, 1) := dd_M_clear 28 (48, .iconst 0, 1) rfl
theorem d_M_clear_49 : decode b_M_clear 49 = .ok (.putfield 185, 3) := dd_M_clear 29 (49, .putfield 185, 3) rfl
theorem d_M_clear_52 : decode b_M_clear 52 = .ok (.return_, 1) := dd_M_clear 30 (52, .return_, 1) rfl
def tb_B_init : List (Nat × Instr × Nat) := [(0, .aload_n 0, 1), (1, .invokespecial 3, 3), (4, .aload_n 0, 1), (5, .iconst 1, 1), (6, .iload_n 1, 1), (7, .sipush 2000, 3), (10, .invokestatic 9, 3), (13, .invokestatic 15, 3), (16, .newarray .int, 2), (18, .putfield 18, 3), (21, .return_, 1)]
theorem dd_B_init : ∀ (i : Nat) (q : Nat × Instr × Nat), tb_B_init[i]? = some q → decode b_B_init q.1 = .ok (q.2.1, q.2.2) := z_tab (by decide +kernel)
theorem d_B_init_0 : decode b_B_init 0 = .ok (.aload_n 0, 1) := dd_B_init 0 (0, .aload_n 0, 1) rfl
theorem d_B_init_1 : decode b_B_init 1 = .ok (.invokespecial 3, 3) := dd_B_init 1 (1, .invokespecial 3, 3) rfl
theorem d_B_init_4 : decode b_B_init 4 = .ok (.aload_n 0, 1) := dd_B_init 2 (4, .aload_n 0, 1) rfl
theorem d_B_init_5 : decode b_B_init 5 = .ok (.iconst 1, 1) := dd_B_init 3 (5, .iconst 1, 1) rfl
theorem d_B_init_6 : decode b_B_init 6 = .ok (.iload_n 1, 1) := dd_B_init 4 (6, .iload_n 1, 1) rfl
theorem d_B_init_7 : decode b_B_init 7 = .ok (.sipush 2000, 3) := dd_B_init 5 (7, .sipush 2000, 3) rfl
theorem d_B_init_10 : decode b_B_init 10 = .ok (.invokestatic 9, 3) := dd_B_init 6 (10, .invokestatic 9, 3) rfl
theorem d_B_init_13 : decode b_B_init 13 = .ok (.invokestatic 15, 3) := dd_B_init 7 (13, .invokestatic 15, 3) rfl
theorem d_B_init_16 : decode b_B_init 16 = .ok (.newarray .int, 2) := dd_B_init 8 (16, .newarray .int, 2) rfl
theorem d_B_init_18 : decode b_B_init 18 = .ok (.putfield 18, 3) := dd_B_init 9 (18, .putfield 18, 3) rfl
theorem d_B_init_21 : decode b_B_init 21 = .ok (.return_, 1) := dd_B_init 10 (21, .return_, 1) rfl
def tb_B_wipe : List (Nat × Instr × Nat) := [(0, .aload_n 0, 1), (1, .iconst 0, 1), (2, .putfield 24, 3), (5, .aload_n 0, 1), (6, .iconst 0, 1), (7, .putfield 28, 3), (10, .return_, 1)]
theorem dd_B_wipe : ∀ (i : Nat) (q : Nat × Instr × Nat), tb_B_wipe[i]? = some q → decode b_B_wipe q.1 = .ok (q.2.1, q.2.2) := z_tab (by decide +kernel)
theorem d_B_wipe_0 : decode b_B_wipe 0 = .ok (.aload_n 0, 1) := dd_B_wipe 0 (0, .aload_n 0, 1) rfl
theorem d_B_wipe_1 : decode b_B_wipe 1 = .ok (.iconst 0, 1) := dd_B_wipe 1 (1, .iconst 0, 1) rfl
theorem d_B_wipe_2 : decode b_B_wipe 2 = .ok (.putfield 24, 3) := dd_B_wipe 2 (2, .putfield 24, 3) rfl
theorem d_B_wipe_5 : decode b_B_wipe 5 = .ok (.aload_n 0, 1) := dd_B_wipe 3 (5, .aload_n 0, 1) rfl
theorem d_B_wipe_6 : decode b_B_wipe 6 = .ok (.iconst 0, 1) := dd_B_wipe 4 (6, .iconst 0, 1) rfl
theorem d_B_wipe_7 : decode b_B_wipe 7 = .ok (.putfield 28, 3) := dd_B_wipe 5 (7, .putfield 28, 3) rfl
theorem d_B_wipe_10 : decode b_B_wipe 10 = .ok (.return_, 1) := dd_B_wipe 6 (10, .return_, 1) rfl
def tb_B_rewind : List (Nat × Instr × Nat) := [(0, .aload_n 0, 1), (1, .iconst 0, 1), (2, .putfield 28, 3), (5, .return_, 1)]
theorem dd_B_rewind : ∀ (i : Nat) (q : Nat × Instr × Nat), tb_B_rewind[i]? = some q → decode b_B_rewind q.1 = .ok (q.2.1, q.2.2) := z_tab (by decide +kernel)
theorem d_B_rewind_0 : decode b_B_rewind 0 = .ok (.aload_n 0, 1) := dd_B_rewind 0 (0, .aload_n 0, 1) rfl
theorem d_B_rewind_1 : decode b_B_rewind 1 = .ok (.iconst 0, 1) := dd_B_rewind 1 (1, .iconst 0, 1) rfl
theorem d_B_rewind_2 : decode b_B_rewind 2 = .ok (.putfield 28, 3) := dd_B_rewind 2 (2, .putfield 28, 3) rfl
theorem d_B_rewind_5 : decode b_B_rewind 5 = .ok (.return_, 1) := dd_B_rewind 3 (5, .return_, 1) rfl
def tb_B_bytes : List (Nat × Instr × Nat) := [(0, .aload_n 0, 1), (1, .getfield 24, 3), (4, .bipush 8, 2), (6, .iadd, 1), (7, .iconst 1, 1), (8, .isub, 1), (9, .bipush 8, 2), (11, .idiv, 1), (12, .ireturn, 1)]
theorem dd_B_bytes : ∀ (i : Nat) (q : Nat × Instr × Nat), tb_B_bytes[i]? = some q → decode b_B_bytes q.1 = .ok (q.2.1, q.2.2) := z_tab (by decide +kernel)
theorem d_B_bytes_0 : decode b_B_bytes 0 = .ok (.aload_n 0, 1) := dd_B_bytes 0 (0, .aload_n 0, 1) rfl
theorem d_B_bytes_1 : decode b_B_bytes 1 = .ok (.getfield 24, 3) := dd_B_bytes 1 (1, .getfield 24, 3) rfl
theorem d_B_bytes_4 : decode b_B_bytes 4 = .ok (.bipush 8, 2) := dd_B_bytes 2 (4, .bipush 8, 2) rfl
theorem d_B_bytes_6 : decode b_B_bytes 6 = .ok (.iadd, 1) := dd_B_bytes 3 (6, .iadd, 1) rfl
theorem d_B_bytes_7 : decode b_B_bytes 7 = .ok (.iconst 1, 1) := dd_B_bytes 4 (7, .iconst 1, 1) rfl
theorem d_B_bytes_8 : decode b_B_bytes 8 = .ok (.isub, 1) := dd_B_bytes 5 (8, .isub, 1) rfl
theorem d_B_bytes_9 : decode b_B_bytes 9 = .ok (.bipush 8, 2) := dd_B_bytes 6 (9, .bipush 8, 2) rfl
theorem d_B_bytes_11 : decode b_B_bytes 11 = .ok (.idiv, 1) := dd_B_bytes 7 (11, .idiv, 1) rfl
theorem d_B_bytes_12 : decode b_B_bytes 12 = .ok (.ireturn, 1) := dd_B_bytes 8 (12, .ireturn, 1) rfl
def tb_B_byteOf : List (Nat × Instr × Nat) := [(0, .iload_n 1, 1), (1, .ifCond .lt 21, 3), (4, .iload_n 1, 1), (5, .aload_n 0, 1), (6, .getfield 18, 3), (9, .arraylength, 1), (10, .if_icmp .ge 12, 3), (13, .aload_n 0, 1), (14, .getfield 18, 3), (17, .iload_n 1, 1), (18, .iaload, 1), (19, .goto 4, 3), (22, .iconst 0, 1), (23, .ireturn, 1)]
theorem dd_B_byteOf : ∀ (i : Nat) (q : Nat × Instr × Nat), tb_B_byteOf[i]? = some q → decode b_B_byteOf q.1 = .ok (q.2.1, q.2.2) := z_tab (by decide +kernel)
theorem d_B_byteOf_0 : decode b_B_byteOf 0 = .ok (.iload_n 1, 1) := dd_B_byteOf 0 (0, .iload_n 1, 1) rfl
theorem d_B_byteOf_1 : decode b_B_byteOf 1 = .ok (.ifCond .lt 21, 3) := dd_B_byteOf 1 (1, .ifCond .lt 21, 3) rfl
theorem d_B_byteOf_4 : decode b_B_byteOf 4 = .ok (.iload_n 1, 1) := dd_B_byteOf 2 (4, .iload_n 1, 1) rfl
theorem d_B_byteOf_5 : decode b_B_byteOf 5 = .ok (.aload_n 0, 1) := dd_B_byteOf 3 (5, .aload_n 0, 1) rfl
theorem d_B_byteOf_6 : decode b_B_byteOf 6 = .ok (.getfield 18, 3) := dd_B_byteOf 4 (6, .getfield 18, 3) rfl
theorem d_B_byteOf_9 : decode b_B_byteOf 9 = .ok (.arraylength, 1) := dd_B_byteOf 5 (9, .arraylength, 1) rfl
theorem d_B_byteOf_10 : decode b_B_byteOf 10 = .ok (.if_icmp .ge 12, 3) := dd_B_byteOf 6 (10, .if_icmp .ge 12, 3) rfl
theorem d_B_byteOf_13 : decode b_B_byteOf 13 = .ok (.aload_n 0, 1) := dd_B_byteOf 7 (13, .aload_n 0, 1) rfl
theorem d_B_byteOf_14 : decode b_B_byteOf 14 = .ok (.getfield 18, 3) := dd_B_byteOf 8 (14, .getfield 18, 3) rfl
theorem d_B_byteOf_17 : decode b_B_byteOf 17 = .ok (.iload_n 1, 1) := dd_B_byteOf 9 (17, .iload_n 1, 1) rfl
theorem d_B_byteOf_18 : decode b_B_byteOf 18 = .ok (.iaload, 1) := dd_B_byteOf 10 (18, .iaload, 1) rfl
theorem d_B_byteOf_19 : decode b_B_byteOf 19 = .ok (.goto 4, 3) := dd_B_byteOf 11 (19, .goto 4, 3) rfl
theorem d_B_byteOf_22 : decode b_B_byteOf 22 = .ok (.iconst 0, 1) := dd_B_byteOf 12 (22, .iconst 0, 1) rfl
theorem d_B_byteOf_23 : decode b_B_byteOf 23 = .ok (.ireturn, 1) := dd_B_byteOf 13 (23, .ireturn, 1) rfl
def tb_B_append : List (Nat × Instr × Nat) := [(0, .iload_n 2, 1), (1, .iconst 1, 1), (2, .isub, 1), (3, .istore_n 3, 1), (4, .iload_n 3, 1), (5, .ifCond .lt 18, 3), (8, .aload_n 0, 1), (9, .iload_n 1, 1), (10, .iload_n 3, 1), (11, .ishr, 1), (12, .iconst 1, 1), (13, .iand, 1), (14, .invokevirtual 31, 3), (17, .iinc 3 (-1), 3), (20, .goto (-16), 3), (23, .return_, 1)]
theorem dd_B_append : ∀ (i : Nat) (q : Nat × Instr × Nat), tb_B_append[i]? = some q → decode b_B_append q.1 = .ok (q.2.1, q.2.2) := z_tab (by decide +kernel)
theorem d_B_append_0 : decode b_B_append 0 = .ok (.iload_n 2, 1) := dd_B_append 0 (0, .iload_n 2, 1) rfl
theorem d_B_append_1 : decode b_B_append 1 = .ok (.iconst 1, 1) := dd_B_append 1 (1, .iconst 1, 1) rfl
theorem d_B_append_2 : decode b_B_append 2 = .ok (.isub, 1) := dd_B_append 2 (2, .isub, 1) rfl
theorem d_B_append_3 : decode b_B_append 3 = .ok (.istore_n 3, 1) := dd_B_append 3 (3, .istore_n 3, 1) rfl
theorem d_B_append_4 : decode b_B_append 4 = .ok (.iload_n 3, 1) := dd_B_append 4 (4, .iload_n 3, 1) rfl
theorem d_B_append_5 : decode b_B_append 5 = .ok (.ifCond .lt 18, 3) := dd_B_append 5 (5, .ifCond .lt 18, 3) rfl
theorem d_B_append_8 : decode b_B_append 8 = .ok (.aload_n 0, 1) := dd_B_append 6 (8, .aload_n 0, 1) rfl
theorem d_B_append_9 : decode b_B_append 9 = .ok (.iload_n 1, 1) := dd_B_append 7 (9, .iload_n 1, 1) rfl
theorem d_B_append_10 : decode b_B_append 10 = .ok (.iload_n 3, 1) := dd_B_append 8 (10, .iload_n 3, 1) rfl
theorem d_B_append_11 : decode b_B_append 11 = .ok (.ishr, 1) := dd_B_append 9 (11, .ishr, 1) rfl
theorem d_B_append_12 : decode b_B_append 12 = .ok (.iconst 1, 1) := dd_B_append 10 (12, .iconst 1, 1) rfl
theorem d_B_append_13 : decode b_B_append 13 = .ok (.iand, 1) := dd_B_append 11 (13, .iand, 1) rfl
theorem d_B_append_14 : decode b_B_append 14 = .ok (.invokevirtual 31, 3) := dd_B_append 12 (14, .invokevirtual 31, 3) rfl
theorem d_B_append_17 : decode b_B_append 17 = .ok (.iinc 3 (-1), 3) := dd_B_append 13 (17, .iinc 3 (-1), 3) rfl
theorem d_B_append_20 : decode b_B_append 20 = .ok (.goto (-16), 3) := dd_B_append 14 (20, .goto (-16), 3) rfl
theorem d_B_append_23 : decode b_B_append 23 = .ok (.return_, 1) := dd_B_append 15 (23, .return_, 1) rfl
def tb_B_appendBit : List (Nat × Instr × Nat) := [(0, .aload_n 0, 1), (1, .getfield 24, 3), (4, .bipush 8, 2), (6, .idiv, 1), (7, .istore_n 2, 1), (8, .iload_n 2, 1), (9, .ifCond .lt 12, 3), (12, .iload_n 2, 1), (13, .aload_n 0, 1), (14, .getfield 18, 3), (17, .arraylength, 1), (18, .if_icmp .lt 4, 3), (21, .return_, 1), (22, .aload_n 0, 1), (23, .getfield 24, 3), (26, .bipush 8, 2), (28, .irem, 1), (29, .istore_n 3, 1), (30, .iload_n 3, 1), (31, .ifCond .ne 7, 3), (34, .iconst 0, 1), (35, .goto 9, 3), (38, .aload_n 0, 1), (39, .getfield 18, 3), (42, .iload_n 2, 1), (43, .iaload, 1), (44, .istore 4, 2), (46, .aload_n 0, 1), (47, .getfield 18, 3), (50, .iload_n 2, 1), (51, .iload 4, 2), (53, .iload_n 1, 1), (54, .bipush 7, 2), (56, .iload_n 3, 1), (57, .isub, 1), (58, .ishl, 1), (59, .ior, 1), (60, .iastore, 1), (61, .aload_n 0, 1), (62, .dup, 1), (63, .getfield 24, 3), (66, .iconst 1, 1), (67, .iadd, 1), (68, .putfield 24, 3), (71, .return_, 1)]
theorem dd_B_appendBit : ∀ (i : Nat) (q : Nat × Instr × Nat), tb_B_appendBit[i]? = some q → decode b_B_appendBit q.1 = .ok (q.2.1, q.2.2) := z_tab (by decide +kernel)
theorem d_B_appendBit_0 : decode b_B_appendBit 0 = .ok (.aload_n 0, 1) := dd_B_appendBit 0 (0, .aload_n 0, 1) rfl
theorem d_B_appendBit_1 : decode b_B_appendBit 1 = .ok (.getfield 24, 3) := dd_B_appendBit 1 (1, .getfield 24, 3) rfl
theorem d_B_appendBit_4 : decode b_B_appendBit 4 = .ok (.bipush 8, 2) := dd_B_appendBit 2 (4, .bipush 8, 2) rfl
theorem d_B_appendBit_6 : decode b_B_appendBit 6 = .ok (.idiv, 1) := dd_B_appendBit 3 (6, .idiv, 1) rfl
theorem d_B_appendBit_7 : decode b_B_appendBit 7 = .ok (.istore_n 2, 1) := dd_B_appendBit 4 (7, .istore_n 2, 1) rfl
theorem d_B_appendBit_8 : decode b_B_appendBit 8 = .ok (.iload_n 2, 1) := dd_B_appendBit 5 (8, .iload_n 2, 1) rfl
theorem d_B_appendBit_9 : decode b_B_appendBit 9 = .ok (.ifCond .lt 12, 3) := dd_B_appendBit 6 (9, .ifCond .lt 12, 3) rfl
theorem d_B_appendBit_12 : decode b_B_appendBit 12 = .ok (.iload_n 2, 1) := dd_B_appendBit 7 (12, .iload_n 2, 1) rfl
theorem d_B_appendBit_13 : decode b_B_appendBit 13 = .ok (.aload_n 0, 1) := dd_B_appendBit 8 (13, .aload_n 0, 1) rfl
theorem d_B_appendBit_14 : decode b_B_appendBit 14 = .ok (.getfield 18, 3) := dd_B_appendBit 9 (14, .getfield 18, 3) rfl
theorem d_B_appendBit_17 : decode b_B_appendBit 17 = .ok (.arraylength, 1) := dd_B_appendBit 10 (17, .arraylength, 1) rfl
theorem d_B_appendBit_18 : decode b_B_appendBit 18 = .ok (.if_icmp .lt 4, 3) := dd_B_appendBit 11 (18, .if_icmp .lt 4, 3) rfl
theorem d_B_appendBit_21 : decode b_B_appendBit 21 = .ok (.return_, 1) := dd_B_appendBit 12 (21, .return_, 1) rfl
theorem d_B_appendBit_22 : decode b_B_appendBit 22 = .ok (.aload_n 0, 1) := dd_B_appendBit 13 (22, .aload_n 0, 1) rfl
theorem d_B_appendBit_23 : decode b_B_appendBit 23 = .ok (.getfield 24, 3) := dd_B_appendBit 14 (23, .getfield 24, 3) rfl
theorem d_B_appendBit_26 : decode b_B_appendBit 26 = .ok (.bipush 8, 2) := dd_B_appendBit 15 (26, .bipush 8, 2) rfl
theorem d_B_appendBit_28 : decode b_B_appendBit 28 = .ok (.irem, 1) := dd_B_appendBit 16 (28, .irem, 1) rfl
theorem d_B_appendBit_29 : decode b_B_appendBit 29 = .ok (.istore_n 3, 1) := dd_B_appendBit 17 (29, .istore_n 3, 1) rfl
theorem d_B_appendBit_30 : decode b_B_appendBit 30 = .ok (.iload_n 3, 1) := dd_B_appendBit 18 (30, .iload_n 3, 1) rfl
theorem d_B_appendBit_31 : decode b_B_appendBit 31 = .ok (.ifCond .ne 7, 3) := dd_B_appendBit 19 (31, .ifCond .ne 7, 3) rfl
theorem d_B_appendBit_34 : decode b_B_appendBit 34 = .ok (.iconst 0, 1) := dd_B_appendBit 20 (34, .iconst 0, 1) rfl
theorem d_B_appendBit_35 : decode b_B_appendBit 35 = .ok (.goto 9, 3) := dd_B_appendBit 21 (35, .goto 9, 3) rfl
theorem d_B_appendBit_38 : decode b_B_appendBit 38 = .ok (.aload_n 0, 1) := dd_B_appendBit 22 (38, .aload_n 0, 1) rfl
theorem d_B_appendBit_39 : decode b_B_appendBit 39 = .ok (.getfield 18, 3) := dd_B_appendBit 23 (39, .getfield 18, 3) rfl
theorem d_B_appendBit_42 : decode b_B_appendBit 42 = .ok (.iload_n 2, 1) := dd_B_appendBit 24 (42, .iload_n 2, 1) rfl
theorem d_B_appendBit_43 : decode b_B_appendBit 43 = .ok (.iaload, 1) := dd_B_appendBit 25 (43, .iaload, 1) rfl
theorem d_B_appendBit_44 : decode b_B_appendBit 44 = .ok (.istore 4, 2) := dd_B_appendBit 26 (44, .istore 4, 2) rfl
theorem d_B_appendBit_46 : decode b_B_appendBit 46 = .ok (.aload_n 0, 1) := dd_B_appendBit 27 (46, .aload_n 0, 1) rfl
theorem d_B_appendBit_47 : decode b_B_appendBit 47 = .ok (.getfield 18, 3) := dd_B_appendBit 28 (47, .getfield 18, 3) rfl
theorem d_B_appendBit_50 : decode b_B_appendBit 50 = .ok (.iload_n 2, 1) := dd_B_appendBit 29 (50, .iload_n 2, 1) rfl
theorem d_B_appendBit_51 : decode b_B_appendBit 51 = .ok (.iload 4, 2) := dd_B_appendBit 30 (51, .iload 4, 2) rfl
theorem d_B_appendBit_53 : decode b_B_appendBit 53 = .ok (.iload_n 1, 1) := dd_B_appendBit 31 (53, .iload_n 1, 1) rfl
theorem d_B_appendBit_54 : decode b_B_appendBit 54 = .ok (.bipush 7, 2) := dd_B_appendBit 32 (54, .bipush 7, 2) rfl
theorem d_B_appendBit_56 : decode b_B_appendBit 56 = .ok (.iload_n 3, 1) := dd_B_appendBit 33 (56, .iload_n 3, 1) rfl
theorem d_B_appendBit_57 : decode b_B_appendBit 57 = .ok (.isub, 1) := dd_B_appendBit 34 (57, .isub, 1) rfl
theorem d_B_appendBit_58 : decode b_B_appendBit 58 = .ok (.ishl, 1) := dd_B_appendBit 35 (58, .ishl, 1) rfl
theorem d_B_appendBit_59 : decode b_B_appendBit 59 = .ok (.ior, 1) := dd_B_appendBit 36 (59, .ior, 1) rfl
theorem d_B_appendBit_60 : decode b_B_appendBit 60 = .ok (.iastore, 1) := dd_B_appendBit 37 (60, .iastore, 1) rfl
theorem d_B_appendBit_61 : decode b_B_appendBit 61 = .ok (.aload_n 0, 1) := dd_B_appendBit 38 (61, .aload_n 0, 1) rfl
theorem d_B_appendBit_62 : decode b_B_appendBit 62 = .ok (.dup, 1) := dd_B_appendBit 39 (62, .dup, 1) rfl
theorem d_B_appendBit_63 : decode b_B_appendBit 63 = .ok (.getfield 24, 3) := dd_B_appendBit 40 (63, .getfield 24, 3) rfl
theorem d_B_appendBit_66 : decode b_B_appendBit 66 = .ok (.iconst 1, 1) := dd_B_appendBit 41 (66, .iconst 1, 1) rfl
theorem d_B_appendBit_67 : decode b_B_appendBit 67 = .ok (.iadd, 1) := dd_B_appendBit 42 (67, .iadd, 1) rfl
theorem d_B_appendBit_68 : decode b_B_appendBit 68 = .ok (.putfield 24, 3) := dd_B_appendBit 43 (68, .putfield 24, 3) rfl
theorem d_B_appendBit_71 : decode b_B_appendBit 71 = .ok (.return_, 1) := dd_B_appendBit 44 (71, .return_, 1) rfl
def tb_B_take : List (Nat × Instr × Nat) := [(0, .aload_n 0, 1), (1, .getfield 24, 3), (4, .aload_n 0, 1), (5, .getfield 28, 3), (8, .isub, 1), (9, .iload_n 1, 1), (10, .if_icmp .ge 5, 3), (13, .iconst (-1), 1), (14, .ireturn, 1), (15, .iconst 0, 1), (16, .istore_n 2, 1), (17, .iconst 0, 1), (18, .istore_n 3, 1), (19, .iload_n 3, 1), (20, .iload_n 1, 1), (21, .if_icmp .ge 24, 3), (24, .iconst 2, 1), (25, .iload_n 2, 1), (26, .imul, 1), (27, .aload_n 0, 1), (28, .aload_n 0, 1), (29, .getfield 28, 3), (32, .iload_n 3, 1), (33, .iadd, 1), (34, .invokevirtual 35, 3), (37, .iadd, 1), (38, .istore_n 2, 1), (39, .iinc 3 1, 3), (42, .goto (-23), 3), (45, .aload_n 0, 1), (46, .dup, 1), (47, .getfield 28, 3), (50, .iload_n 1, 1), (51, .iadd, 1), (52, .putfield 28, 3), (55, .iload_n 2, 1), (56, .ireturn, 1)]
theorem dd_B_take : ∀ (i : Nat) (q : Nat × Instr × Nat), tb_B_take[i]? = some q → decode b_B_take q.1 = .ok (q.2.1, q.2.2) := z_tab (by decide +kernel)
theorem d_B_take_0 : decode b_B_take 0 = .ok (.aload_n 0, 1) := dd_B_take 0 (0, .aload_n 0, 1) rfl
theorem d_B_take_1 : decode b_B_take 1 = .ok (.getfield 24, 3) := dd_B_take 1 (1, .getfield 24, 3) rfl
theorem d_B_take_4 : decode b_B_take 4 = .ok (.aload_n 0, 1) := dd_B_take 2 (4, .aload_n 0, 1) rfl
theorem d_B_take_5 : decode b_B_take 5 = .ok (.getfield 28, 3) := dd_B_take 3 (5, .getfield 28, 3) rfl
theorem d_B_take_8 : decode b_B_take 8 = .ok (.isub, 1) := dd_B_take 4 (8, .isub, 1) rfl
theorem d_B_take_9 : decode b_B_take 9 = .ok (.iload_n 1, 1) := dd_B_take 5 (9, .iload_n 1, 1) rfl
theorem d_B_take_10 : decode b_B_take 10 = .ok (.if_icmp .ge 5, 3) := dd_B_take 6 (10, .if_icmp .ge 5, 3) rfl
theorem d_B_take_13 : decode b_B_take 13 = .ok (.iconst (-1), 1) := dd_B_take 7 (13, .iconst (-1), 1) rfl
theorem d_B_take_14 : decode b_B_take 14 = .ok (.ireturn, 1) := dd_B_take 8 (14, .ireturn, 1) rfl
theorem d_B_take_15 : decode b_B_take 15 = .ok (.iconst 0, 1) := dd_B_take 9 (15, .iconst 0, 1) rfl
theorem d_B_take_16 : decode b_B_take 16 = .ok (.istore_n 2, 1) := dd_B_take 10 (16, .istore_n 2, 1) rfl
theorem d_B_take_17 : decode b_B_take 17 = .ok (.iconst 0, 1) := dd_B_take 11 (17, .iconst 0, 1) rfl
theorem d_B_take_18 : decode b_B_take 18 = .ok (.istore_n 3, 1) := dd_B_take 12 (18, .istore_n 3, 1) rfl
theorem d_B_take_19 : decode b_B_take 19 = .ok (.iload_n 3, 1) := dd_B_take 13 (19, .iload_n 3, 1) rfl
theorem d_B_take_20 : decode b_B_take 20 = .ok (.iload_n 1, 1) := dd_B_take 14 (20, .iload_n 1, 1) rfl
theorem d_B_take_21 : decode b_B_take 21 = .ok (.if_icmp .ge 24, 3) := dd_B_take 15 (21, .if_icmp .ge 24, 3) rfl
theorem d_B_take_24 : decode b_B_take 24 = .ok (.iconst 2, 1) := dd_B_take 16 (24, .iconst 2, 1) rfl
theorem d_B_take_25 : decode b_B_take 25 = .ok (.iload_n 2, 1) := dd_B_take 17 (25, .iload_n 2, 1) rfl
theorem d_B_take_26 : decode b_B_take 26 = .ok (.imul, 1) := dd_B_take 18 (26, .imul, 1) rfl
theorem d_B_take_27 : decode b_B_take 27 = .ok (.aload_n 0, 1) := dd_B_take 19 (27, .aload_n 0, 1) rfl
theorem d_B_take_28 : decode b_B_take 28 = .ok (.aload_n 0, 1) := dd_B_take 20 (28, .aload_n 0, 1) rfl
theorem d_B_take_29 : decode b_B_take 29 = .ok (.getfield 28, 3) := dd_B_take 21 (29, .getfield 28, 3) rfl
theorem d_B_take_32 : decode b_B_take 32 = .ok (.iload_n 3, 1) := dd_B_take 22 (32, .iload_n 3, 1) rfl
theorem d_B_take_33 : decode b_B_take 33 = .ok (.iadd, 1) := dd_B_take 23 (33, .iadd, 1) rfl
theorem d_B_take_34 : decode b_B_take 34 = .ok (.invokevirtual 35, 3) := dd_B_take 24 (34, .invokevirtual 35, 3) rfl
theorem d_B_take_37 : decode b_B_take 37 = .ok (.iadd, 1) := dd_B_take 25 (37, .iadd, 1) rfl
theorem d_B_take_38 : decode b_B_take 38 = .ok (.istore_n 2, 1) := dd_B_take 26 (38, .istore_n 2, 1) rfl
theorem d_B_take_39 : decode b_B_take 39 = .ok (.iinc 3 1, 3) := dd_B_take 27 (39, .iinc 3 1, 3) rfl
theorem d_B_take_42 : decode b_B_take 42 = .ok (.goto (-23), 3) := dd_B_take 28 (42, .goto (-23), 3) rfl
theorem d_B_take_45 : decode b_B_take 45 = .ok (.aload_n 0, 1) := dd_B_take 29 (45, .aload_n 0, 1) rfl
theorem d_B_take_46 : decode b_B_take 46 = .ok (.dup, 1) := dd_B_take 30 (46, .dup, 1) rfl
theorem d_B_take_47 : decode b_B_take 47 = .ok (.getfield 28, 3) := dd_B_take 31 (47, .getfield 28, 3) rfl
theorem d_B_take_50 : decode b_B_take 50 = .ok (.iload_n 1, 1) := dd_B_take 32 (50, .iload_n 1, 1) rfl
theorem d_B_take_51 : decode b_B_take 51 = .ok (.iadd, 1) := dd_B_take 33 (51, .iadd, 1) rfl
theorem d_B_take_52 : decode b_B_take 52 = .ok (.putfield 28, 3) := dd_B_take 34 (52, .putfield 28, 3) rfl
theorem d_B_take_55 : decode b_B_take 55 = .ok (.iload_n 2, 1) := dd_B_take 35 (55, .iload_n 2, 1) rfl
theorem d_B_take_56 : decode b_B_take 56 = .ok (.ireturn, 1) := dd_B_take 36 (56, .ireturn, 1) rfl
def tb_B_bitAt : List (Nat × Instr × Nat) := [(0, .aload_n 0, 1), (1, .iload_n 1, 1), (2, .bipush 8, 2), (4, .idiv, 1), (5, .invokevirtual 39, 3), (8, .bipush 7, 2), (10, .iload_n 1, 1), (11, .bipush 8, 2), (13, .irem, 1), (14, .isub, 1), (15, .ishr, 1), (16, .iconst 1, 1), (17, .iand, 1), (18, .ireturn, 1)]
theorem dd_B_bitAt : ∀ (i : Nat) (q : Nat × Instr × Nat), tb_B_bitAt[i]? = some q → decode b_B_bitAt q.1 = .ok (q.2.1, q.2.2) := z_tab (by decide +kernel)
theorem d_B_bitAt_0 : decode b_B_bitAt 0 = .ok (.aload_n 0, 1) := dd_B_bitAt 0 (0, .aload_n 0, 1) rfl
theorem d_B_bitAt_1 : decode b_B_bitAt 1 = .ok (.iload_n 1, 1) := dd_B_bitAt 1 (1, .iload_n 1, 1) rfl
theorem d_B_bitAt_2 : decode b_B_bitAt 2 = .ok (.bipush 8, 2) := dd_B_bitAt 2 (2, .bipush 8, 2) rfl
theorem d_B_bitAt_4 : decode b_B_bitAt 4 = .ok (.idiv, 1) := dd_B_bitAt 3 (4, .idiv, 1) rfl
theorem d_B_bitAt_5 : decode b_B_bitAt 5 = .ok (.invokevirtual 39, 3) := dd_B_bitAt 4 (5, .invokevirtual 39, 3) rfl
theorem d_B_bitAt_8 : decode b_B_bitAt 8 = .ok (.bipush 7, 2) := dd_B_bitAt 5 (8, .bipush 7, 2) rfl
theorem d_B_bitAt_10 : decode b_B_bitAt 10 = .ok (.iload_n 1, 1) := dd_B_bitAt 6 (10, .iload_n 1, 1) rfl
theorem d_B_bitAt_11 : decode b_B_bitAt 11 = .ok (.bipush 8, 2) := dd_B_bitAt 7 (11, .bipush 8, 2) rfl
theorem d_B_bitAt_13 : decode b_B_bitAt 13 = .ok (.irem, 1) := dd_B_bitAt 8 (13, .irem, 1) rfl
theorem d_B_bitAt_14 : decode b_B_bitAt 14 = .ok (.isub, 1) := dd_B_bitAt 9 (14, .isub, 1) rfl
theorem d_B_bitAt_15 : decode b_B_bitAt 15 = .ok (.ishr, 1) := dd_B_bitAt 10 (15, .ishr, 1) rfl
theorem d_B_bitAt_16 : decode b_B_bitAt 16 = .ok (.iconst 1, 1) := dd_B_bitAt 11 (16, .iconst 1, 1) rfl
theorem d_B_bitAt_17 : decode b_B_bitAt 17 = .ok (.iand, 1) := dd_B_bitAt 12 (17, .iand, 1) rfl
theorem d_B_bitAt_18 : decode b_B_bitAt 18 = .ok (.ireturn, 1) := dd_B_bitAt 13 (18, .ireturn, 1) rfl
def tb_B_restIsFilling : List (Nat × Instr × Nat) := [(0, .aload_n 0, 1), (1, .getfield 24, 3), (4, .aload_n 0, 1), (5, .getfield 28, 3), (8, .isub, 1), (9, .bipush 8, 2), (11, .if_icmp .lt 5, 3), (14, .iconst 0, 1), (15, .ireturn, 1), (16, .aload_n 0, 1), (17, .getfield 28, 3), (20, .istore_n 1, 1), (21, .iload_n 1, 1), (22, .aload_n 0, 1), (23, .getfield 24, 3), (26, .if_icmp .ge 19, 3), (29, .aload_n 0, 1), (30, .iload_n 1, 1), (31, .invokevirtual 35, 3), (34, .ifCond .eq 5, 3), (37, .iconst 0, 1), (38, .ireturn, 1), (39, .iinc 1 1, 3), (42, .goto (-21), 3), (45, .iconst 1, 1), (46, .ireturn, 1)]
theorem dd_B_restIsFilling : ∀ (i : Nat) (q : Nat × Instr × Nat), tb_B_restIsFilling[i]? = some q → decode b_B_restIsFilling q.1 = .ok (q.2.1, q.2.2) := z_tab (by decide +kernel)
theorem d_B_restIsFilling_0 : decode b_B_restIsFilling 0 = .ok (.aload_n 0, 1) := dd_B_restIsFilling 0 (0, .aload_n 0, 1) rfl
theorem d_B_restIsFilling_1 : decode b_B_restIsFilling 1 = .ok (.getfield 24, 3) := dd_B_restIsFilling 1 (1, .getfield 24, 3) rfl
theorem d_B_restIsFilling_4 : decode b_B_restIsFilling 4 = .ok (.aload_n 0, 1) := dd_B_restIsFilling 2 (4, .aload_n 0, 1) rfl
theorem d_B_restIsFilling_5 : decode b_B_restIsFilling 5 = .ok (.getfield 28, 3) := dd_B_restIsFilling 3 (5, .getfield 28, 3) rfl
theorem d_B_restIsFilling_8 : decode b_B_restIsFilling 8 = .ok (.isub, 1) := dd_B_restIsFilling 4 (8, .isub, 1) rfl
theorem d_B_restIsFilling_9 : decode b_B_restIsFilling 9 = .ok (.bipush 8, 2) := dd_B_restIsFilling 5 (9, .bipush 8, 2) rfl
theorem d_B_restIsFilling_11 : decode b_B_restIsFilling 11 = .ok (.if_icmp .lt 5, 3) := dd_B_restIsFilling 6 (11, .if_icmp .lt 5, 3) rfl
theorem d_B_restIsFilling_14 : decode b_B_restIsFilling 14 = .ok (.iconst 0, 1) := dd_B_restIsFilling 7 (14, .iconst 0, 1) rfl
theorem d_B_restIsFilling_15 : decode b_B_restIsFilling 15 = .ok (.ireturn, 1) := dd_B_restIsFilling 8 (15, .ireturn, 1) rfl
theorem d_B_restIsFilling_16 : decode b_B_restIsFilling 16 = .ok (.aload_n 0, 1) := dd_B_restIsFilling 9 (16, .aload_n 0, 1) rfl
theorem d_B_restIsFilling_17 : decode b_B_restIsFilling 17 = .ok (.getfield 28, 3) := dd_B_restIsFilling 10 (17, .getfield 28, 3) rfl
theorem d_B_restIsFilling_20 : decode b_B_restIsFilling 20 = .ok (.istore_n 1, 1) := dd_B_restIsFilling 11 (20, .istore_n 1, 1) rfl
theorem d_B_restIsFilling_21 : decode b_B_restIsFilling 21 = .ok (.iload_n 1, 1) := dd_B_restIsFilling 12 (21, .iload_n 1, 1) rfl
theorem d_B_restIsFilling_22 : decode b_B_restIsFilling 22 = .ok (.aload_n 0, 1) := dd_B_restIsFilling 13 (22, .aload_n 0, 1) rfl
theorem d_B_restIsFilling_23 : decode b_B_restIsFilling 23 = .ok (.getfield 24, 3) := dd_B_restIsFilling 14 (23, .getfield 24, 3) rfl
theorem d_B_restIsFilling_26 : decode b_B_restIsFilling 26 = .ok (.if_icmp .ge 19, 3) := dd_B_restIsFilling 15 (26, .if_icmp .ge 19, 3) rfl
theorem d_B_restIsFilling_29 : decode b_B_restIsFilling 29 = .ok (.aload_n 0, 1) := dd_B_restIsFilling 16 (29, .aload_n 0, 1) rfl
theorem d_B_restIsFilling_30 : decode b_B_restIsFilling 30 = .ok (.iload_n 1, 1) := dd_B_restIsFilling 17 (30, .iload_n 1, 1) rfl
theorem d_B_restIsFilling_31 : decode b_B_restIsFilling 31 = .ok (.invokevirtual 35, 3) := dd_B_restIsFilling 18 (31, .invokevirtual 35, 3) rfl
theorem d_B_restIsFilling_34 : decode b_B_restIsFilling 34 = .ok (.ifCond .eq 5, 3) := dd_B_restIsFilling 19 (34, .ifCond .eq 5, 3) rfl
theorem d_B_restIsFilling_37 : decode b_B_restIsFilling 37 = .ok (.iconst 0, 1) := dd_B_restIsFilling 20 (37, .iconst 0, 1) rfl
theorem d_B_restIsFilling_38 : decode b_B_restIsFilling 38 = .ok (.ireturn, 1) := dd_B_restIsFilling 21 (38, .ireturn, 1) rfl
theorem d_B_restIsFilling_39 : decode b_B_restIsFilling 39 = .ok (.iinc 1 1, 3) := dd_B_restIsFilling 22 (39, .iinc 1 1, 3) rfl
theorem d_B_restIsFilling_42 : decode b_B_restIsFilling 42 = .ok (.goto (-21), 3) := dd_B_restIsFilling 23 (42, .goto (-21), 3) rfl
theorem d_B_restIsFilling_45 : decode b_B_restIsFilling 45 = .ok (.iconst 1, 1) := dd_B_restIsFilling 24 (45, .iconst 1, 1) rfl
theorem d_B_restIsFilling_46 : decode b_B_restIsFilling 46 = .ok (.ireturn, 1) := dd_B_restIsFilling 25 (46, .ireturn, 1) rfl
def tb_K_init : List (Nat × Instr × Nat) := [(0, .aload_n 0, 1), (1, .invokespecial 3, 3), (4, .aload_n 0, 1), (5, .bipush 8, 2), (7, .iconst 1, 1), (8, .iload_n 1, 1), (9, .sipush 256, 3), (12, .invokestatic 11, 3), (15, .invokestatic 17, 3), (18, .imul, 1), (19, .newarray .int, 2), (21, .putfield 20, 3), (24, .return_, 1)]
theorem dd_K_init : ∀ (i : Nat) (q : Nat × Instr × Nat), tb_K_init[i]? = some q → decode b_K_init q.1 = .ok (q.2.1, q.2.2) := z_tab (by decide +kernel)
theorem d_K_init_0 : decode b_K_init 0 = .ok (.aload_n 0, 1) := dd_K_init 0 (0, .aload_n 0, 1) rfl
theorem d_K_init_1 : decode b_K_init 1 = .ok (.invokespecial 3, 3) := dd_K_init 1 (1, .invokespecial 3, 3) rfl
theorem d_K_init_4 : decode b_K_init 4 = .ok (.aload_n 0, 1) := dd_K_init 2 (4, .aload_n 0, 1) rfl
theorem d_K_init_5 : decode b_K_init 5 = .ok (.bipush 8, 2) := dd_K_init 3 (5, .bipush 8, 2) rfl
theorem d_K_init_7 : decode b_K_init 7 = .ok (.iconst 1, 1) := dd_K_init 4 (7, .iconst 1, 1) rfl
theorem d_K_init_8 : decode b_K_init 8 = .ok (.iload_n 1, 1) := dd_K_init 5 (8, .iload_n 1, 1) rfl
theorem d_K_init_9 : decode b_K_init 9 = .ok (.sipush 256, 3) := dd_K_init 6 (9, .sipush 256, 3) rfl
theorem d_K_init_12 : decode b_K_init 12 = .ok (.invokestatic 11, 3) := dd_K_init 7 (12, .invokestatic 11, 3) rfl
theorem d_K_init_15 : decode b_K_init 15 = .ok (.invokestatic 17, 3) := dd_K_init 8 (15, .invokestatic 17, 3) rfl
theorem d_K_init_18 : decode b_K_init 18 = .ok (.imul, 1) := dd_K_init 9 (18, .imul, 1) rfl
theorem d_K_init_19 : decode b_K_init 19 = .ok (.newarray .int, 2) := dd_K_init 10 (19, .newarray .int, 2) rfl
theorem d_K_init_21 : decode b_K_init 21 = .ok (.putfield 20, 3) := dd_K_init 11 (21, .putfield 20, 3) rfl
theorem d_K_init_24 : decode b_K_init 24 = .ok (.return_, 1) := dd_K_init 12 (24, .return_, 1) rfl
def tb_K_wipe : List (Nat × Instr × Nat) := [(0, .aload_n 0, 1), (1, .iconst 0, 1), (2, .putfield 24, 3), (5, .return_, 1)]
theorem dd_K_wipe : ∀ (i : Nat) (q : Nat × Instr × Nat), tb_K_wipe[i]? = some q → decode b_K_wipe q.1 = .ok (q.2.1, q.2.2) := z_tab (by decide +kernel)
theorem d_K_wipe_0 : decode b_K_wipe 0 = .ok (.aload_n 0, 1) := dd_K_wipe 0 (0, .aload_n 0, 1) rfl
theorem d_K_wipe_1 : decode b_K_wipe 1 = .ok (.iconst 0, 1) := dd_K_wipe 1 (1, .iconst 0, 1) rfl
theorem d_K_wipe_2 : decode b_K_wipe 2 = .ok (.putfield 24, 3) := dd_K_wipe 2 (2, .putfield 24, 3) rfl
theorem d_K_wipe_5 : decode b_K_wipe 5 = .ok (.return_, 1) := dd_K_wipe 3 (5, .return_, 1) rfl
def tb_K_add : List (Nat × Instr × Nat) := [(0, .bipush 8, 2), (2, .aload_n 0, 1), (3, .getfield 24, 3), (6, .imul, 1), (7, .istore 5, 2), (9, .iload 5, 2), (11, .bipush 7, 2), (13, .iadd, 1), (14, .aload_n 0, 1), (15, .getfield 20, 3), (18, .arraylength, 1), (19, .if_icmp .lt 4, 3), (22, .return_, 1), (23, .aload_n 0, 1), (24, .getfield 20, 3), (27, .iload 5, 2), (29, .iconst 0, 1), (30, .iadd, 1), (31, .iload_n 1, 1), (32, .iastore, 1), (33, .aload_n 0, 1), (34, .getfield 20, 3), (37, .iload 5, 2), (39, .iconst 1, 1), (40, .iadd, 1), (41, .iload_n 2, 1), (42, .iastore, 1), (43, .aload_n 0, 1), (44, .getfield 20, 3), (47, .iload 5, 2), (49, .iconst 2, 1), (50, .iadd, 1), (51, .iload_n 3, 1), (52, .iastore, 1), (53, .aload_n 0, 1), (54, .getfield 20, 3), (57, .iload 5, 2), (59, .iconst 3, 1), (60, .iadd, 1), (61, .aload 4, 2), (63, .getfield 28, 3), (66, .iastore, 1), (67, .aload_n 0, 1), (68, .getfield 20, 3), (71, .iload 5, 2), (73, .iconst 4, 1), (74, .iadd, 1), (75, .aload 4, 2), (77, .getfield 33, 3), (80, .iastore, 1), (81, .aload_n 0, 1), (82, .getfield 20, 3), (85, .iload 5, 2), (87, .iconst 5, 1), (88, .iadd, 1), (89, .aload 4, 2), (91, .getfield 36, 3), (94, .iastore, 1), (95, .aload_n 0, 1), (96, .getfield 20, 3), (99, .iload 5, 2), (101, .bipush 6, 2), (103, .iadd, 1), (104, .aload 4, 2), (106, .getfield 39, 3), (109, .iastore, 1), (110, .aload_n 0, 1), (111, .getfield 20, 3), (114, .iload 5, 2), (116, .bipush 7, 2), (118, .iadd, 1), (119, .aload 4, 2), (121, .getfield 42, 3), (124, .iastore, 1), (125, .aload_n 0, 1), (126, .dup, 1), (127, .getfield 24, 3), (130, .iconst 1, 1), (131, .iadd, 1), (132, .putfield 24, 3), (135, .return_, 1)]
theorem dd_K_add : ∀ (i : Nat) (q : Nat × Instr × Nat), tb_K_add[i]? = some q → decode b_K_add q.1 = .ok (q.2.1, q.2.2) := z_tab (by decide +kernel)
theorem d_K_add_0 : decode b_K_add 0 = .ok (.bipush 8, 2) := dd_K_add 0 (0, .bipush 8, 2) rfl
theorem d_K_add_2 : decode b_K_add 2 = .ok (.aload_n 0, 1) := dd_K_add 1 (2, .aload_n 0, 1) rfl
theorem d_K_add_3 : decode b_K_add 3 = .ok (.getfield 24, 3) := dd_K_add 2 (3, .getfield 24, 3) rfl
theorem d_K_add_6 : decode b_K_add 6 = .ok (.imul, 1) := dd_K_add 3 (6, .imul, 1) rfl
theorem d_K_add_7 : decode b_K_add 7 = .ok (.istore 5, 2) := dd_K_add 4 (7, .istore 5, 2) rfl
theorem d_K_add_9 : decode b_K_add 9 = .ok (.iload 5, 2) := dd_K_add 5 (9, .iload 5, 2) rfl
theorem d_K_add_11 : decode b_K_add 11 = .ok (.bipush 7, 2) := dd_K_add 6 (11, .bipush 7, 2) rfl
theorem d_K_add_13 : decode b_K_add 13 = .ok (.iadd, 1) := dd_K_add 7 (13, .iadd, 1) rfl
theorem d_K_add_14 : decode b_K_add 14 = .ok (.aload_n 0, 1) := dd_K_add 8 (14, .aload_n 0, 1) rfl
theorem d_K_add_15 : decode b_K_add 15 = .ok (.getfield 20, 3) := dd_K_add 9 (15, .getfield 20, 3) rfl
theorem d_K_add_18 : decode b_K_add 18 = .ok (.arraylength, 1) := dd_K_add 10 (18, .arraylength, 1) rfl
theorem d_K_add_19 : decode b_K_add 19 = .ok (.if_icmp .lt 4, 3) := dd_K_add 11 (19, .if_icmp .lt 4, 3) rfl
theorem d_K_add_22 : decode b_K_add 22 = .ok (.return_, 1) := dd_K_add 12 (22, .return_, 1) rfl
theorem d_K_add_23 : decode b_K_add 23 = .ok (.aload_n 0, 1) := dd_K_add 13 (23, .aload_n 0, 1) rfl
theorem d_K_add_24 : decode b_K_add 24 = .ok (.getfield 20, 3) := dd_K_add 14 (24, .getfield 20, 3) rfl
theorem d_K_add_27 : decode b_K_add 27 = .ok (.iload 5, 2) := dd_K_add 15 (27, .iload 5, 2) rfl
theorem d_K_add_29 : decode b_K_add 29 = .ok (.iconst 0, 1) := dd_K_add 16 (29, .iconst 0, 1) rfl
theorem d_K_add_30 : decode b_K_add 30 = .ok (.iadd, 1) := dd_K_add 17 (30, .iadd, 1) rfl
theorem d_K_add_31 : decode b_K_add 31 = .ok (.iload_n 1, 1) := dd_K_add 18 (31, .iload_n 1, 1) rfl
theorem d_K_add_32 : decode b_K_add 32 = .ok (.iastore, 1) := dd_K_add 19 (32, .iastore, 1) rfl
theorem d_K_add_33 : decode b_K_add 33 = .ok (.aload_n 0, 1) := dd_K_add 20 (33, .aload_n 0, 1) rfl
theorem d_K_add_34 : decode b_K_add 34 = .ok (.getfield 20, 3) := dd_K_add 21 (34, .getfield 20, 3) rfl
theorem d_K_add_37 : decode b_K_add 37 = .ok (.iload 5, 2) := dd_K_add 22 (37, .iload 5, 2) rfl
theorem d_K_add_39 : decode b_K_add 39 = .ok (.iconst 1, 1) := dd_K_add 23 (39, .iconst 1, 1) rfl
theorem d_K_add_40 : decode b_K_add 40 = .ok (.iadd, 1) := dd_K_add 24 (40, .iadd, 1) rfl
theorem d_K_add_41 : decode b_K_add 41 = .ok (.iload_n 2, 1) := dd_K_add 25 (41, .iload_n 2, 1) rfl
theorem d_K_add_42 : decode b_K_add 42 = .ok (.iastore, 1) := dd_K_add 26 (42, .iastore, 1) rfl
theorem d_K_add_43 : decode b_K_add 43 = .ok (.aload_n 0, 1) := dd_K_add 27 (43, .aload_n 0, 1) rfl
theorem d_K_add_44 : decode b_K_add 44 = .ok (.getfield 20, 3) := dd_K_add 28 (44, .getfield 20, 3) rfl
theorem d_K_add_47 : decode b_K_add 47 = .ok (.iload 5, 2) := dd_K_add 29 (47, .iload 5, 2) rfl
theorem d_K_add_49 : decode b_K_add 49 = .ok (.iconst 2, 1) := dd_K_add 30 (49, .iconst 2, 1) rfl
theorem d_K_add_50 : decode b_K_add 50 = .ok (.iadd, 1) := dd_K_add 31 (50, .iadd, 1) rfl
theorem d_K_add_51 : decode b_K_add 51 = .ok (.iload_n 3, 1) := dd_K_add 32 (51, .iload_n 3, 1) rfl
theorem d_K_add_52 : decode b_K_add 52 = .ok (.iastore, 1) := dd_K_add 33 (52, .iastore, 1) rfl
theorem d_K_add_53 : decode b_K_add 53 = .ok (.aload_n 0, 1) := dd_K_add 34 (53, .aload_n 0, 1) rfl
theorem d_K_add_54 : decode b_K_add 54 = .ok (.getfield 20, 3) := dd_K_add 35 (54, .getfield 20, 3) rfl
theorem d_K_add_57 : decode b_K_add 57 = .ok (.iload 5, 2) := dd_K_add 36 (57, .iload 5, 2) rfl
theorem d_K_add_59 : decode b_K_add 59 = .ok (.iconst 3, 1) := dd_K_add 37 (59, .iconst 3, 1) rfl
theorem d_K_add_60 : decode b_K_add 60 = .ok (.iadd, 1) := dd_K_add 38 (60, .iadd, 1) rfl
theorem d_K_add_61 : decode b_K_add 61 = .ok (.aload 4, 2) := dd_K_add 39 (61, .aload 4, 2) rfl
theorem d_K_add_63 : decode b_K_add 63 = .ok (.getfield 28, 3) := dd_K_add 40 (63, .getfield 28, 3) rfl
theorem d_K_add_66 : decode b_K_add 66 = .ok (.iastore, 1) := dd_K_add 41 (66, .iastore, 1) rfl
theorem d_K_add_67 : decode b_K_add 67 = .ok (.aload_n 0, 1) := dd_K_add 42 (67, .aload_n 0, 1) rfl
theorem d_K_add_68 : decode b_K_add 68 = .ok (.getfield 20, 3) := dd_K_add 43 (68, .getfield 20, 3) rfl
theorem d_K_add_71 : decode b_K_add 71 = .ok (.iload 5, 2) := dd_K_add 44 (71, .iload 5, 2) rfl
theorem d_K_add_73 : decode b_K_add 73 = .ok (.iconst 4, 1) := dd_K_add 45 (73, .iconst 4, 1) rfl
theorem d_K_add_74 : decode b_K_add 74 = .ok (.iadd, 1) := dd_K_add 46 (74, .iadd, 1) rfl
theorem d_K_add_75 : decode b_K_add 75 = .ok (.aload 4, 2) := dd_K_add 47 (75, .aload 4, 2) rfl
theorem d_K_add_77 : decode b_K_add 77 = .ok (.getfield 33, 3) := dd_K_add 48 (77, .getfield 33, 3) rfl
theorem d_K_add_80 : decode b_K_add 80 = .ok (.iastore, 1) := dd_K_add 49 (80, .iastore, 1) rfl
theorem d_K_add_81 : decode b_K_add 81 = .ok (.aload_n 0, 1) := dd_K_add 50 (81, .aload_n 0, 1) rfl
theorem d_K_add_82 : decode b_K_add 82 = .ok (.getfield 20, 3) := dd_K_add 51 (82, .getfield 20, 3) rfl
theorem d_K_add_85 : decode b_K_add 85 = .ok (.iload 5, 2) := dd_K_add 52 (85, .iload 5, 2) rfl
theorem d_K_add_87 : decode b_K_add 87 = .ok (.iconst 5, 1) := dd_K_add 53 (87, .iconst 5, 1) rfl
theorem d_K_add_88 : decode b_K_add 88 = .ok (.iadd, 1) := dd_K_add 54 (88, .iadd, 1) rfl
theorem d_K_add_89 : decode b_K_add 89 = .ok (.aload 4, 2) := dd_K_add 55 (89, .aload 4, 2) rfl
theorem d_K_add_91 : decode b_K_add 91 = .ok (.getfield 36, 3) := dd_K_add 56 (91, .getfield 36, 3) rfl
theorem d_K_add_94 : decode b_K_add 94 = .ok (.iastore, 1) := dd_K_add 57 (94, .iastore, 1) rfl
theorem d_K_add_95 : decode b_K_add 95 = .ok (.aload_n 0, 1) := dd_K_add 58 (95, .aload_n 0, 1) rfl
theorem d_K_add_96 : decode b_K_add 96 = .ok (.getfield 20, 3) := dd_K_add 59 (96, .getfield 20, 3) rfl
theorem d_K_add_99 : decode b_K_add 99 = .ok (.iload 5, 2) := dd_K_add 60 (99, .iload 5, 2) rfl
theorem d_K_add_101 : decode b_K_add 101 = .ok (.bipush 6, 2) := dd_K_add 61 (101, .bipush 6, 2) rfl
theorem d_K_add_103 : decode b_K_add 103 = .ok (.iadd, 1) := dd_K_add 62 (103, .iadd, 1) rfl
theorem d_K_add_104 : decode b_K_add 104 = .ok (.aload 4, 2) := dd_K_add 63 (104, .aload 4, 2) rfl
theorem d_K_add_106 : decode b_K_add 106 = .ok (.getfield 39, 3) := dd_K_add 64 (106, .getfield 39, 3) rfl
theorem d_K_add_109 : decode b_K_add 109 = .ok (.iastore, 1) := dd_K_add 65 (109, .iastore, 1) rfl
theorem d_K_add_110 : decode b_K_add 110 = .ok (.aload_n 0, 1) := dd_K_add 66 (110, .aload_n 0, 1) rfl
theorem d_K_add_111 : decode b_K_add 111 = .ok (.getfield 20, 3) := dd_K_add 67 (111, .getfield 20, 3) rfl
theorem d_K_add_114 : decode b_K_add 114 = .ok (.iload 5, 2) := dd_K_add 68 (114, .iload 5, 2) rfl
theorem d_K_add_116 : decode b_K_add 116 = .ok (.bipush 7, 2) := dd_K_add 69 (116, .bipush 7, 2) rfl
theorem d_K_add_118 : decode b_K_add 118 = .ok (.iadd, 1) := dd_K_add 70 (118, .iadd, 1) rfl
theorem d_K_add_119 : decode b_K_add 119 = .ok (.aload 4, 2) := dd_K_add 71 (119, .aload 4, 2) rfl
theorem d_K_add_121 : decode b_K_add 121 = .ok (.getfield 42, 3) := dd_K_add 72 (121, .getfield 42, 3) rfl
theorem d_K_add_124 : decode b_K_add 124 = .ok (.iastore, 1) := dd_K_add 73 (124, .iastore, 1) rfl
theorem d_K_add_125 : decode b_K_add 125 = .ok (.aload_n 0, 1) := dd_K_add 74 (125, .aload_n 0, 1) rfl
theorem d_K_add_126 : decode b_K_add 126 = .ok (.dup, 1) := dd_K_add 75 (126, .dup, 1) rfl
theorem d_K_add_127 : decode b_K_add 127 = .ok (.getfield 24, 3) := dd_K_add 76 (127, .getfield 24, 3) rfl
theorem d_K_add_130 : decode b_K_add 130 = .ok (.iconst 1, 1) := dd_K_add 77 (130, .iconst 1, 1) rfl
theorem d_K_add_131 : decode b_K_add 131 = .ok (.iadd, 1) := dd_K_add 78 (131, .iadd, 1) rfl
theorem d_K_add_132 : decode b_K_add 132 = .ok (.putfield 24, 3) := dd_K_add 79 (132, .putfield 24, 3) rfl
theorem d_K_add_135 : decode b_K_add 135 = .ok (.return_, 1) := dd_K_add 80 (135, .return_, 1) rfl
def tb_K_fact : List (Nat × Instr × Nat) := [(0, .iload_n 1, 1), (1, .ifCond .lt 21, 3), (4, .iload_n 1, 1), (5, .aload_n 0, 1), (6, .getfield 24, 3), (9, .if_icmp .ge 13, 3), (12, .iload_n 2, 1), (13, .ifCond .lt 9, 3), (16, .iload_n 2, 1), (17, .bipush 8, 2), (19, .if_icmp .lt 5, 3), (22, .iconst (-1), 1), (23, .ireturn, 1), (24, .aload_n 0, 1), (25, .getfield 20, 3), (28, .bipush 8, 2), (30, .iload_n 1, 1), (31, .imul, 1), (32, .iload_n 2, 1), (33, .iadd, 1), (34, .iaload, 1), (35, .ireturn, 1)]
theorem dd_K_fact : ∀ (i : Nat) (q : Nat × Instr × Nat), tb_K_fact[i]? = some q → decode b_K_fact q.1 = .ok (q.2.1, q.2.2) := z_tab (by decide +kernel)
theorem d_K_fact_0 : decode b_K_fact 0 = .ok (.iload_n 1, 1) := dd_K_fact 0 (0, .iload_n 1, 1) rfl
theorem d_K_fact_1 : decode b_K_fact 1 = .ok (.ifCond .lt 21, 3) := dd_K_fact 1 (1, .ifCond .lt 21, 3) rfl
theorem d_K_fact_4 : decode b_K_fact 4 = .ok (.iload_n 1, 1) := dd_K_fact 2 (4, .iload_n 1, 1) rfl
theorem d_K_fact_5 : decode b_K_fact 5 = .ok (.aload_n 0, 1) := dd_K_fact 3 (5, .aload_n 0, 1) rfl
theorem d_K_fact_6 : decode b_K_fact 6 = .ok (.getfield 24, 3) := dd_K_fact 4 (6, .getfield 24, 3) rfl
theorem d_K_fact_9 : decode b_K_fact 9 = .ok (.if_icmp .ge 13, 3) := dd_K_fact 5 (9, .if_icmp .ge 13, 3) rfl
theorem d_K_fact_12 : decode b_K_fact 12 = .ok (.iload_n 2, 1) := dd_K_fact 6 (12, .iload_n 2, 1) rfl
theorem d_K_fact_13 : decode b_K_fact 13 = .ok (.ifCond .lt 9, 3) := dd_K_fact 7 (13, .ifCond .lt 9, 3) rfl
theorem d_K_fact_16 : decode b_K_fact 16 = .ok (.iload_n 2, 1) := dd_K_fact 8 (16, .iload_n 2, 1) rfl
theorem d_K_fact_17 : decode b_K_fact 17 = .ok (.bipush 8, 2) := dd_K_fact 9 (17, .bipush 8, 2) rfl
theorem d_K_fact_19 : decode b_K_fact 19 = .ok (.if_icmp .lt 5, 3) := dd_K_fact 10 (19, .if_icmp .lt 5, 3) rfl
theorem d_K_fact_22 : decode b_K_fact 22 = .ok (.iconst (-1), 1) := dd_K_fact 11 (22, .iconst (-1), 1) rfl
theorem d_K_fact_23 : decode b_K_fact 23 = .ok (.ireturn, 1) := dd_K_fact 12 (23, .ireturn, 1) rfl
theorem d_K_fact_24 : decode b_K_fact 24 = .ok (.aload_n 0, 1) := dd_K_fact 13 (24, .aload_n 0, 1) rfl
theorem d_K_fact_25 : decode b_K_fact 25 = .ok (.getfield 20, 3) := dd_K_fact 14 (25, .getfield 20, 3) rfl
theorem d_K_fact_28 : decode b_K_fact 28 = .ok (.bipush 8, 2) := dd_K_fact 15 (28, .bipush 8, 2) rfl
theorem d_K_fact_30 : decode b_K_fact 30 = .ok (.iload_n 1, 1) := dd_K_fact 16 (30, .iload_n 1, 1) rfl
theorem d_K_fact_31 : decode b_K_fact 31 = .ok (.imul, 1) := dd_K_fact 17 (31, .imul, 1) rfl
theorem d_K_fact_32 : decode b_K_fact 32 = .ok (.iload_n 2, 1) := dd_K_fact 18 (32, .iload_n 2, 1) rfl
theorem d_K_fact_33 : decode b_K_fact 33 = .ok (.iadd, 1) := dd_K_fact 19 (33, .iadd, 1) rfl
theorem d_K_fact_34 : decode b_K_fact 34 = .ok (.iaload, 1) := dd_K_fact 20 (34, .iaload, 1) rfl
theorem d_K_fact_35 : decode b_K_fact 35 = .ok (.ireturn, 1) := dd_K_fact 21 (35, .ireturn, 1) rfl
def tb_T_init : List (Nat × Instr × Nat) := [(0, .aload_n 0, 1), (1, .invokespecial 1, 3), (4, .return_, 1)]
theorem dd_T_init : ∀ (i : Nat) (q : Nat × Instr × Nat), tb_T_init[i]? = some q → decode b_T_init q.1 = .ok (q.2.1, q.2.2) := z_tab (by decide +kernel)
theorem d_T_init_0 : decode b_T_init 0 = .ok (.aload_n 0, 1) := dd_T_init 0 (0, .aload_n 0, 1) rfl
theorem d_T_init_1 : decode b_T_init 1 = .ok (.invokespecial 1, 3) := dd_T_init 1 (1, .invokespecial 1, 3) rfl
theorem d_T_init_4 : decode b_T_init 4 = .ok (.return_, 1) := dd_T_init 2 (4, .return_, 1) rfl
def tb_T_become : List (Nat × Instr × Nat) := [(0, .aload_n 0, 1), (1, .iload_n 1, 1), (2, .putfield 7, 3), (5, .aload_n 0, 1), (6, .iload_n 2, 1), (7, .putfield 13, 3), (10, .aload_n 0, 1), (11, .iload_n 3, 1), (12, .putfield 16, 3), (15, .aload_n 0, 1), (16, .iload 4, 2), (18, .putfield 19, 3), (21, .aload_n 0, 1), (22, .iload 5, 2), (24, .putfield 22, 3), (27, .return_, 1)]
theorem dd_T_become : ∀ (i : Nat) (q : Nat × Instr × Nat), tb_T_become[i]? = some q → decode b_T_become q.1 = .ok (q.2.1, q.2.2) := z_tab (by decide +kernel)
theorem d_T_become_0 : decode b_T_become 0 = .ok (.aload_n 0, 1) := dd_T_become 0 (0, .aload_n 0, 1) rfl
theorem d_T_become_1 : decode b_T_become 1 = .ok (.iload_n 1, 1) := dd_T_become 1 (1, .iload_n 1, 1) rfl
theorem d_T_become_2 : decode b_T_become 2 = .ok (.putfield 7, 3) := dd_T_become 2 (2, .putfield 7, 3) rfl
theorem d_T_become_5 : decode b_T_become 5 = .ok (.aload_n 0, 1) := dd_T_become 3 (5, .aload_n 0, 1) rfl
theorem d_T_become_6 : decode b_T_become 6 = .ok (.iload_n 2, 1) := dd_T_become 4 (6, .iload_n 2, 1) rfl
theorem d_T_become_7 : decode b_T_become 7 = .ok (.putfield 13, 3) := dd_T_become 5 (7, .putfield 13, 3) rfl
theorem d_T_become_10 : decode b_T_become 10 = .ok (.aload_n 0, 1) := dd_T_become 6 (10, .aload_n 0, 1) rfl
theorem d_T_become_11 : decode b_T_become 11 = .ok (.iload_n 3, 1) := dd_T_become 7 (11, .iload_n 3, 1) rfl
theorem d_T_become_12 : decode b_T_become 12 = .ok (.putfield 16, 3) := dd_T_become 8 (12, .putfield 16, 3) rfl
theorem d_T_become_15 : decode b_T_become 15 = .ok (.aload_n 0, 1) := dd_T_become 9 (15, .aload_n 0, 1) rfl
theorem d_T_become_16 : decode b_T_become 16 = .ok (.iload 4, 2) := dd_T_become 10 (16, .iload 4, 2) rfl
theorem d_T_become_18 : decode b_T_become 18 = .ok (.putfield 19, 3) := dd_T_become 11 (18, .putfield 19, 3) rfl
theorem d_T_become_21 : decode b_T_become 21 = .ok (.aload_n 0, 1) := dd_T_become 12 (21, .aload_n 0, 1) rfl
theorem d_T_become_22 : decode b_T_become 22 = .ok (.iload 5, 2) := dd_T_become 13 (22, .iload 5, 2) rfl
theorem d_T_become_24 : decode b_T_become 24 = .ok (.putfield 22, 3) := dd_T_become 14 (24, .putfield 22, 3) rfl
theorem d_T_become_27 : decode b_T_become 27 = .ok (.return_, 1) := dd_T_become 15 (27, .return_, 1) rfl
def tb_G_init : List (Nat × Instr × Nat) := [(0, .aload_n 0, 1), (1, .invokespecial 3, 3), (4, .aload_n 0, 1), (5, .iconst 1, 1), (6, .iload_n 1, 1), (7, .bipush 64, 2), (9, .invokestatic 9, 3), (12, .invokestatic 15, 3), (15, .putfield 18, 3), (18, .aload_n 0, 1), (19, .iconst 0, 1), (20, .iload_n 2, 1), (21, .aload_n 0, 1), (22, .getfield 18, 3), (25, .invokestatic 9, 3), (28, .invokestatic 15, 3), (31, .putfield 24, 3), (34, .aload_n 0, 1), (35, .aload_n 0, 1), (36, .getfield 18, 3), (39, .aload_n 0, 1), (40, .getfield 18, 3), (43, .imul, 1), (44, .newarray .int, 2), (46, .putfield 27, 3), (49, .return_, 1)]
theorem dd_G_init : ∀ (i : Nat) (q : Nat × Instr × Nat), tb_G_init[i]? = some q → decode b_G_init q.1 = .ok (q.2.1, q.2.2) := z_tab (by decide +kernel)
theorem d_G_init_0 : decode b_G_init 0 = .ok (.aload_n 0, 1) := dd_G_init 0 (0, .aload_n 0, 1) rfl
theorem d_G_init_1 : decode b_G_init 1 = .ok (.invokespecial 3, 3) := dd_G_init 1 (1, .invokespecial 3, 3) rfl
theorem d_G_init_4 : decode b_G_init 4 = .ok (.aload_n 0, 1) := dd_G_init 2 (4, .aload_n 0, 1) rfl
theorem d_G_init_5 : decode b_G_init 5 = .ok (.iconst 1, 1) := dd_G_init 3 (5, .iconst 1, 1) rfl
theorem d_G_init_6 : decode b_G_init 6 = .ok (.iload_n 1, 1) := dd_G_init 4 (6, .iload_n 1, 1) rfl
theorem d_G_init_7 : decode b_G_init 7 = .ok (.bipush 64, 2) := dd_G_init 5 (7, .bipush 64, 2) rfl
theorem d_G_init_9 : decode b_G_init 9 = .ok (.invokestatic 9, 3) := dd_G_init 6 (9, .invokestatic 9, 3) rfl
theorem d_G_init_12 : decode b_G_init 12 = .ok (.invokestatic 15, 3) := dd_G_init 7 (12, .invokestatic 15, 3) rfl
theorem d_G_init_15 : decode b_G_init 15 = .ok (.putfield 18, 3) := dd_G_init 8 (15, .putfield 18, 3) rfl
theorem d_G_init_18 : decode b_G_init 18 = .ok (.aload_n 0, 1) := dd_G_init 9 (18, .aload_n 0, 1) rfl
theorem d_G_init_19 : decode b_G_init 19 = .ok (.iconst 0, 1) := dd_G_init 10 (19, .iconst 0, 1) rfl
theorem d_G_init_20 : decode b_G_init 20 = .ok (.iload_n 2, 1) := dd_G_init 11 (20, .iload_n 2, 1) rfl
theorem d_G_init_21 : decode b_G_init 21 = .ok (.aload_n 0, 1) := dd_G_init 12 (21, .aload_n 0, 1) rfl
theorem d_G_init_22 : decode b_G_init 22 = .ok (.getfield 18, 3) := dd_G_init 13 (22, .getfield 18, 3) rfl
theorem d_G_init_25 : decode b_G_init 25 = .ok (.invokestatic 9, 3) := dd_G_init 14 (25, .invokestatic 9, 3) rfl
theorem d_G_init_28 : decode b_G_init 28 = .ok (.invokestatic 15, 3) := dd_G_init 15 (28, .invokestatic 15, 3) rfl
theorem d_G_init_31 : decode b_G_init 31 = .ok (.putfield 24, 3) := dd_G_init 16 (31, .putfield 24, 3) rfl
theorem d_G_init_34 : decode b_G_init 34 = .ok (.aload_n 0, 1) := dd_G_init 17 (34, .aload_n 0, 1) rfl
theorem d_G_init_35 : decode b_G_init 35 = .ok (.aload_n 0, 1) := dd_G_init 18 (35, .aload_n 0, 1) rfl
theorem d_G_init_36 : decode b_G_init 36 = .ok (.getfield 18, 3) := dd_G_init 19 (36, .getfield 18, 3) rfl
theorem d_G_init_39 : decode b_G_init 39 = .ok (.aload_n 0, 1) := dd_G_init 20 (39, .aload_n 0, 1) rfl
theorem d_G_init_40 : decode b_G_init 40 = .ok (.getfield 18, 3) := dd_G_init 21 (40, .getfield 18, 3) rfl
theorem d_G_init_43 : decode b_G_init 43 = .ok (.imul, 1) := dd_G_init 22 (43, .imul, 1) rfl
theorem d_G_init_44 : decode b_G_init 44 = .ok (.newarray .int, 2) := dd_G_init 23 (44, .newarray .int, 2) rfl
theorem d_G_init_46 : decode b_G_init 46 = .ok (.putfield 27, 3) := dd_G_init 24 (46, .putfield 27, 3) rfl
theorem d_G_init_49 : decode b_G_init 49 = .ok (.return_, 1) := dd_G_init 25 (49, .return_, 1) rfl
def tb_G_has : List (Nat × Instr × Nat) := [(0, .iload_n 1, 1), (1, .ifCond .lt 27, 3), (4, .iload_n 1, 1), (5, .aload_n 0, 1), (6, .getfield 24, 3), (9, .if_icmp .ge 19, 3), (12, .iload_n 2, 1), (13, .ifCond .lt 15, 3), (16, .iload_n 2, 1), (17, .aload_n 0, 1), (18, .getfield 24, 3), (21, .if_icmp .ge 7, 3), (24, .iconst 1, 1), (25, .goto 4, 3), (28, .iconst 0, 1), (29, .ireturn, 1)]
theorem dd_G_has : ∀ (i : Nat) (q : Nat × Instr × Nat), tb_G_has[i]? = some q → decode b_G_has q.1 = .ok (q.2.1, q.2.2) := z_tab (by decide +kernel)
theorem d_G_has_0 : decode b_G_has 0 = .ok (.iload_n 1, 1) := dd_G_has 0 (0, .iload_n 1, 1) rfl
theorem d_G_has_1 : decode b_G_has 1 = .ok (.ifCond .lt 27, 3) := dd_G_has 1 (1, .ifCond .lt 27, 3) rfl
theorem d_G_has_4 : decode b_G_has 4 = .ok (.iload_n 1, 1) := dd_G_has 2 (4, .iload_n 1, 1) rfl
theorem d_G_has_5 : decode b_G_has 5 = .ok (.aload_n 0, 1) := dd_G_has 3 (5, .aload_n 0, 1) rfl
theorem d_G_has_6 : decode b_G_has 6 = .ok (.getfield 24, 3) := dd_G_has 4 (6, .getfield 24, 3) rfl
theorem d_G_has_9 : decode b_G_has 9 = .ok (.if_icmp .ge 19, 3) := dd_G_has 5 (9, .if_icmp .ge 19, 3) rfl
theorem d_G_has_12 : decode b_G_has 12 = .ok (.iload_n 2, 1) := dd_G_has 6 (12, .iload_n 2, 1) rfl
theorem d_G_has_13 : decode b_G_has 13 = .ok (.ifCond .lt 15, 3) := dd_G_has 7 (13, .ifCond .lt 15, 3) rfl
theorem d_G_has_16 : decode b_G_has 16 = .ok (.iload_n 2, 1) := dd_G_has 8 (16, .iload_n 2, 1) rfl
theorem d_G_has_17 : decode b_G_has 17 = .ok (.aload_n 0, 1) := dd_G_has 9 (17, .aload_n 0, 1) rfl
theorem d_G_has_18 : decode b_G_has 18 = .ok (.getfield 24, 3) := dd_G_has 10 (18, .getfield 24, 3) rfl
theorem d_G_has_21 : decode b_G_has 21 = .ok (.if_icmp .ge 7, 3) := dd_G_has 11 (21, .if_icmp .ge 7, 3) rfl
theorem d_G_has_24 : decode b_G_has 24 = .ok (.iconst 1, 1) := dd_G_has 12 (24, .iconst 1, 1) rfl
theorem d_G_has_25 : decode b_G_has 25 = .ok (.goto 4, 3) := dd_G_has 13 (25, .goto 4, 3) rfl
theorem d_G_has_28 : decode b_G_has 28 = .ok (.iconst 0, 1) := dd_G_has 14 (28, .iconst 0, 1) rfl
theorem d_G_has_29 : decode b_G_has 29 = .ok (.ireturn, 1) := dd_G_has 15 (29, .ireturn, 1) rfl
def tb_G_sample : List (Nat × Instr × Nat) := [(0, .iload_n 1, 1), (1, .ifCond .lt 39, 3), (4, .iload_n 1, 1), (5, .aload_n 0, 1), (6, .getfield 24, 3), (9, .if_icmp .ge 31, 3), (12, .iload_n 2, 1), (13, .ifCond .lt 27, 3), (16, .iload_n 2, 1), (17, .aload_n 0, 1), (18, .getfield 24, 3), (21, .if_icmp .ge 19, 3), (24, .aload_n 0, 1), (25, .getfield 27, 3), (28, .iload_n 2, 1), (29, .aload_n 0, 1), (30, .getfield 24, 3), (33, .imul, 1), (34, .iload_n 1, 1), (35, .iadd, 1), (36, .iaload, 1), (37, .goto 4, 3), (40, .iconst 0, 1), (41, .ireturn, 1)]
theorem dd_G_sample : ∀ (i : Nat) (q : Nat × Instr × Nat), tb_G_sample[i]? = some q → decode b_G_sample q.1 = .ok (q.2.1, q.2.2) := z_tab (by decide +kernel)
theorem d_G_sample_0 : decode b_G_sample 0 = .ok (.iload_n 1, 1) := dd_G_sample 0 (0, .iload_n 1, 1) rfl
theorem d_G_sample_1 : decode b_G_sample 1 = .ok (.ifCond .lt 39, 3) := dd_G_sample 1 (1, .ifCond .lt 39, 3) rfl
theorem d_G_sample_4 : decode b_G_sample 4 = .ok (.iload_n 1, 1) := dd_G_sample 2 (4, .iload_n 1, 1) rfl
theorem d_G_sample_5 : decode b_G_sample 5 = .ok (.aload_n 0, 1) := dd_G_sample 3 (5, .aload_n 0, 1) rfl
theorem d_G_sample_6 : decode b_G_sample 6 = .ok (.getfield 24, 3) := dd_G_sample 4 (6, .getfield 24, 3) rfl
theorem d_G_sample_9 : decode b_G_sample 9 = .ok (.if_icmp .ge 31, 3) := dd_G_sample 5 (9, .if_icmp .ge 31, 3) rfl
theorem d_G_sample_12 : decode b_G_sample 12 = .ok (.iload_n 2, 1) := dd_G_sample 6 (12, .iload_n 2, 1) rfl
theorem d_G_sample_13 : decode b_G_sample 13 = .ok (.ifCond .lt 27, 3) := dd_G_sample 7 (13, .ifCond .lt 27, 3) rfl
theorem d_G_sample_16 : decode b_G_sample 16 = .ok (.iload_n 2, 1) := dd_G_sample 8 (16, .iload_n 2, 1) rfl
theorem d_G_sample_17 : decode b_G_sample 17 = .ok (.aload_n 0, 1) := dd_G_sample 9 (17, .aload_n 0, 1) rfl
theorem d_G_sample_18 : decode b_G_sample 18 = .ok (.getfield 24, 3) := dd_G_sample 10 (18, .getfield 24, 3) rfl
theorem d_G_sample_21 : decode b_G_sample 21 = .ok (.if_icmp .ge 19, 3) := dd_G_sample 11 (21, .if_icmp .ge 19, 3) rfl
theorem d_G_sample_24 : decode b_G_sample 24 = .ok (.aload_n 0, 1) := dd_G_sample 12 (24, .aload_n 0, 1) rfl
theorem d_G_sample_25 : decode b_G_sample 25 = .ok (.getfield 27, 3) := dd_G_sample 13 (25, .getfield 27, 3) rfl
theorem d_G_sample_28 : decode b_G_sample 28 = .ok (.iload_n 2, 1) := dd_G_sample 14 (28, .iload_n 2, 1) rfl
theorem d_G_sample_29 : decode b_G_sample 29 = .ok (.aload_n 0, 1) := dd_G_sample 15 (29, .aload_n 0, 1) rfl
theorem d_G_sample_30 : decode b_G_sample 30 = .ok (.getfield 24, 3) := dd_G_sample 16 (30, .getfield 24, 3) rfl
theorem d_G_sample_33 : decode b_G_sample 33 = .ok (.imul, 1) := dd_G_sample 17 (33, .imul, 1) rfl
theorem d_G_sample_34 : decode b_G_sample 34 = .ok (.iload_n 1, 1) := dd_G_sample 18 (34, .iload_n 1, 1) rfl
theorem d_G_sample_35 : decode b_G_sample 35 = .ok (.iadd, 1) := dd_G_sample 19 (35, .iadd, 1) rfl
theorem d_G_sample_36 : decode b_G_sample 36 = .ok (.iaload, 1) := dd_G_sample 20 (36, .iaload, 1) rfl
theorem d_G_sample_37 : decode b_G_sample 37 = .ok (.goto 4, 3) := dd_G_sample 21 (37, .goto 4, 3) rfl
theorem d_G_sample_40 : decode b_G_sample 40 = .ok (.iconst 0, 1) := dd_G_sample 22 (40, .iconst 0, 1) rfl
theorem d_G_sample_41 : decode b_G_sample 41 = .ok (.ireturn, 1) := dd_G_sample 23 (41, .ireturn, 1) rfl
def tb_G_set : List (Nat × Instr × Nat) := [(0, .aload_n 0, 1), (1, .iload_n 1, 1), (2, .iload_n 2, 1), (3, .invokevirtual 31, 3), (6, .ifCond .eq 17, 3), (9, .aload_n 0, 1), (10, .getfield 27, 3), (13, .iload_n 2, 1), (14, .aload_n 0, 1), (15, .getfield 24, 3), (18, .imul, 1), (19, .iload_n 1, 1), (20, .iadd, 1), (21, .iload_n 3, 1), (22, .iastore, 1), (23, .return_, 1)]
theorem dd_G_set : ∀ (i : Nat) (q : Nat × Instr × Nat), tb_G_set[i]? = some q → decode b_G_set q.1 = .ok (q.2.1, q.2.2) := z_tab (by decide +kernel)
theorem d_G_set_0 : decode b_G_set 0 = .ok (.aload_n 0, 1) := dd_G_set 0 (0, .aload_n 0, 1) rfl
theorem d_G_set_1 : decode b_G_set 1 = .ok (.iload_n 1, 1) := dd_G_set 1 (1, .iload_n 1, 1) rfl
theorem d_G_set_2 : decode b_G_set 2 = .ok (.iload_n 2, 1) := dd_G_set 2 (2, .iload_n 2, 1) rfl
theorem d_G_set_3 : decode b_G_set 3 = .ok (.invokevirtual 31, 3) := dd_G_set 3 (3, .invokevirtual 31, 3) rfl
theorem d_G_set_6 : decode b_G_set 6 = .ok (.ifCond .eq 17, 3) := dd_G_set 4 (6, .ifCond .eq 17, 3) rfl
theorem d_G_set_9 : decode b_G_set 9 = .ok (.aload_n 0, 1) := dd_G_set 5 (9, .aload_n 0, 1) rfl
theorem d_G_set_10 : decode b_G_set 10 = .ok (.getfield 27, 3) := dd_G_set 6 (10, .getfield 27, 3) rfl
theorem d_G_set_13 : decode b_G_set 13 = .ok (.iload_n 2, 1) := dd_G_set 7 (13, .iload_n 2, 1) rfl
theorem d_G_set_14 : decode b_G_set 14 = .ok (.aload_n 0, 1) := dd_G_set 8 (14, .aload_n 0, 1) rfl
theorem d_G_set_15 : decode b_G_set 15 = .ok (.getfield 24, 3) := dd_G_set 9 (15, .getfield 24, 3) rfl
theorem d_G_set_18 : decode b_G_set 18 = .ok (.imul, 1) := dd_G_set 10 (18, .imul, 1) rfl
theorem d_G_set_19 : decode b_G_set 19 = .ok (.iload_n 1, 1) := dd_G_set 11 (19, .iload_n 1, 1) rfl
theorem d_G_set_20 : decode b_G_set 20 = .ok (.iadd, 1) := dd_G_set 12 (20, .iadd, 1) rfl
theorem d_G_set_21 : decode b_G_set 21 = .ok (.iload_n 3, 1) := dd_G_set 13 (21, .iload_n 3, 1) rfl
theorem d_G_set_22 : decode b_G_set 22 = .ok (.iastore, 1) := dd_G_set 14 (22, .iastore, 1) rfl
theorem d_G_set_23 : decode b_G_set 23 = .ok (.return_, 1) := dd_G_set 15 (23, .return_, 1) rfl
def tb_G_become : List (Nat × Instr × Nat) := [(0, .aload_n 0, 1), (1, .iconst 0, 1), (2, .iload_n 1, 1), (3, .aload_n 0, 1), (4, .getfield 18, 3), (7, .invokestatic 9, 3), (10, .invokestatic 15, 3), (13, .putfield 24, 3), (16, .aload_n 0, 1), (17, .getfield 27, 3), (20, .iload_n 2, 1), (21, .invokestatic 35, 3), (24, .return_, 1)]
theorem dd_G_become : ∀ (i : Nat) (q : Nat × Instr × Nat), tb_G_become[i]? = some q → decode b_G_become q.1 = .ok (q.2.1, q.2.2) := z_tab (by decide +kernel)
theorem d_G_become_0 : decode b_G_become 0 = .ok (.aload_n 0, 1) := dd_G_become 0 (0, .aload_n 0, 1) rfl
theorem d_G_become_1 : decode b_G_become 1 = .ok (.iconst 0, 1) := dd_G_become 1 (1, .iconst 0, 1) rfl
theorem d_G_become_2 : decode b_G_become 2 = .ok (.iload_n 1, 1) := dd_G_become 2 (2, .iload_n 1, 1) rfl
theorem d_G_become_3 : decode b_G_become 3 = .ok (.aload_n 0, 1) := dd_G_become 3 (3, .aload_n 0, 1) rfl
theorem d_G_become_4 : decode b_G_become 4 = .ok (.getfield 18, 3) := dd_G_become 4 (4, .getfield 18, 3) rfl
theorem d_G_become_7 : decode b_G_become 7 = .ok (.invokestatic 9, 3) := dd_G_become 5 (7, .invokestatic 9, 3) rfl
theorem d_G_become_10 : decode b_G_become 10 = .ok (.invokestatic 15, 3) := dd_G_become 6 (10, .invokestatic 15, 3) rfl
theorem d_G_become_13 : decode b_G_become 13 = .ok (.putfield 24, 3) := dd_G_become 7 (13, .putfield 24, 3) rfl
theorem d_G_become_16 : decode b_G_become 16 = .ok (.aload_n 0, 1) := dd_G_become 8 (16, .aload_n 0, 1) rfl
theorem d_G_become_17 : decode b_G_become 17 = .ok (.getfield 27, 3) := dd_G_become 9 (17, .getfield 27, 3) rfl
theorem d_G_become_20 : decode b_G_become 20 = .ok (.iload_n 2, 1) := dd_G_become 10 (20, .iload_n 2, 1) rfl
theorem d_G_become_21 : decode b_G_become 21 = .ok (.invokestatic 35, 3) := dd_G_become 11 (21, .invokestatic 35, 3) rfl
theorem d_G_become_24 : decode b_G_become 24 = .ok (.return_, 1) := dd_G_become 12 (24, .return_, 1) rfl
