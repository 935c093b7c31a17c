def tb_M_search : List (Nat × Instr × Nat) := [(0, .aload_n 0, 1), (1, .iload_n 1, 1), (2, .iload_n 2, 1), (3, .iload_n 3, 1), (4, .invokevirtual 95, 3), (7, .aload_n 0, 1), (8, .getfield 40, 3), (11, .iload_n 3, 1), (12, .invokestatic 99, 3), (15, .istore 4, 2), (17, .aload_n 0, 1), (18, .ldc2_w 103, 3), (21, .putfield 91, 3), (24, .aload_n 0, 1), (25, .iload_n 3, 1), (26, .invokevirtual 69, 3), (29, .aload_n 0, 1), (30, .iload_n 3, 1), (31, .invokevirtual 69, 3), (34, .imul, 1), (35, .istore 5, 2), (37, .iconst 0, 1), (38, .istore 6, 2), (40, .iload 6, 2), (42, .bipush 8, 2), (44, .iload 5, 2), (46, .imul, 1), (47, .if_icmp .ge 111, 3), (50, .aload_n 0, 1), (51, .iload_n 3, 1), (52, .iload 6, 2), (54, .bipush 8, 2), (56, .idiv, 1), (57, .iload 6, 2), (59, .bipush 8, 2), (61, .irem, 1), (62, .invokevirtual 105, 3), (65, .aload_n 0, 1), (66, .getfield 37, 3), (69, .iload_n 3, 1), (70, .iload 4, 2), (72, .invokestatic 77, 3), (75, .istore 7, 2), (77, .iconst 1, 1), (78, .istore 8, 2), (80, .iconst 0, 1), (81, .istore 9, 2), (83, .iload 9, 2), (85, .iconst 4, 1), (86, .if_icmp .ge 36, 3), (89, .iload 8, 2), (91, .ifCond .eq 22, 3), (94, .aload_n 0, 1), (95, .getfield 37, 3), (98, .iload_n 3, 1), (99, .iload 9, 2), (101, .invokestatic 77, 3), (104, .iload 7, 2), (106, .if_icmp .gt 7, 3), (109, .iconst 1, 1), (110, .goto 4, 3), (113, .iconst 0, 1), (114, .istore 8, 2), (116, .iinc 9 1, 3), (119, .goto (-36), 3), (122, .iload 8, 2), (124, .ifCond .eq 28, 3), (127, .aload_n 0, 1), (128, .dup, 1), (129, .getfield 108, 3), (132, .iconst 1, 1), (133, .iadd, 1), (134, .putfield 108, 3), (137, .aload_n 0, 1), (138, .iload_n 3, 1), (139, .iload 6, 2), (141, .bipush 8, 2), (143, .idiv, 1), (144, .iload 6, 2), (146, .bipush 8, 2), (148, .irem, 1), (149, .invokevirtual 111, 3), (152, .iinc 6 1, 3), (155, .goto (-115), 3), (158, .return_, 1)]
theorem dd_M_search : ∀ (i : Nat) (q : Nat × Instr × Nat), tb_M_search[i]? = some q → decode b_M_search q.1 = .ok (q.2.1, q.2.2) := z_tab (by decide +kernel)
theorem d_M_search_0 : decode b_M_search 0 = .ok (.aload_n 0, 1) := dd_M_search 0 (0, .aload_n 0, 1) rfl
theorem d_M_search_1 : decode b_M_search 1 = .ok (.iload_n 1, 1) := dd_M_search 1 (1, .iload_n 1, 1) rfl
theorem d_M_search_2 : decode b_M_search 2 = .ok (.iload_n 2, 1) := dd_M_search 2 (2, .iload_n 2, 1) rfl
theorem d_M_search_3 : decode b_M_search 3 = .ok (.iload_n 3, 1) := dd_M_search 3 (3, .iload_n 3, 1) rfl
theorem d_M_search_4 : decode b_M_search 4 = .ok (.invokevirtual 95, 3) := dd_M_search 4 (4, .invokevirtual 95, 3) rfl
theorem d_M_search_7 : decode b_M_search 7 = .ok (.aload_n 0, 1) := dd_M_search 5 (7, .aload_n 0, 1) rfl
theorem d_M_search_8 : decode b_M_search 8 = .ok (.getfield 40, 3) := dd_M_search 6 (8, .getfield 40, 3) rfl
theorem d_M_search_11 : decode b_M_search 11 = .ok (.iload_n 3, 1) := dd_M_search 7 (11, .iload_n 3, 1) rfl
theorem d_M_search_12 : decode b_M_search 12 = .ok (.invokestatic 99, 3) := dd_M_search 8 (12, .invokestatic 99, 3) rfl
theorem d_M_search_15 : decode b_M_search 15 = .ok (.istore 4, 2) := dd_M_search 9 (15, .istore 4, 2) rfl
theorem d_M_search_17 : decode b_M_search 17 = .ok (.aload_n 0, 1) := dd_M_search 10 (17, .aload_n 0, 1) rfl
theorem d_M_search_18 : decode b_M_search 18 = .ok (.ldc2_w 103, 3) := dd_M_search 11 (18, .ldc2_w 103, 3) rfl
theorem d_M_search_21 : decode b_M_search 21 = .ok (.putfield 91, 3) := dd_M_search 12 (21, .putfield 91, 3) rfl
theorem d_M_search_24 : decode b_M_search 24 = .ok (.aload_n 0, 1) := dd_M_search 13 (24, .aload_n 0, 1) rfl
theorem d_M_search_25 : decode b_M_search 25 = .ok (.iload_n 3, 1) := dd_M_search 14 (25, .iload_n 3, 1) rfl
theorem d_M_search_26 : decode b_M_search 26 = .ok (.invokevirtual 69, 3) := dd_M_search 15 (26, .invokevirtual 69, 3) rfl
theorem d_M_search_29 : decode b_M_search 29 = .ok (.aload_n 0, 1) := dd_M_search 16 (29, .aload_n 0, 1) rfl
theorem d_M_search_30 : decode b_M_search 30 = .ok (.iload_n 3, 1) := dd_M_search 17 (30, .iload_n 3, 1) rfl
theorem d_M_search_31 : decode b_M_search 31 = .ok (.invokevirtual 69, 3) := dd_M_search 18 (31, .invokevirtual 69, 3) rfl
theorem d_M_search_34 : decode b_M_search 34 = .ok (.imul, 1) := dd_M_search 19 (34, .imul, 1) rfl
theorem d_M_search_35 : decode b_M_search 35 = .ok (.istore 5, 2) := dd_M_search 20 (35, .istore 5, 2) rfl
theorem d_M_search_37 : decode b_M_search 37 = .ok (.iconst 0, 1) := dd_M_search 21 (37, .iconst 0, 1) rfl
theorem d_M_search_38 : decode b_M_search 38 = .ok (.istore 6, 2) := dd_M_search 22 (38, .istore 6, 2) rfl
theorem d_M_search_40 : decode b_M_search 40 = .ok (.iload 6, 2) := dd_M_search 23 (40, .iload 6, 2) rfl
theorem d_M_search_42 : decode b_M_search 42 = .ok (.bipush 8, 2) := dd_M_search 24 (42, .bipush 8, 2) rfl
theorem d_M_search_44 : decode b_M_search 44 = .ok (.iload 5, 2) := dd_M_search 25 (44, .iload 5, 2) rfl
theorem d_M_search_46 : decode b_M_search 46 = .ok (.imul, 1) := dd_M_search 26 (46, .imul, 1) rfl
theorem d_M_search_47 : decode b_M_search 47 = .ok (.if_icmp .ge 111, 3) := dd_M_search 27 (47, .if_icmp .ge 111, 3) rfl
theorem d_M_search_50 : decode b_M_search 50 = .ok (.aload_n 0, 1) := dd_M_search 28 (50, .aload_n 0, 1) rfl
theorem d_M_search_51 : decode b_M_search 51 = .ok (.iload_n 3, 1) := dd_M_search 29 (51, .iload_n 3, 1) rfl
theorem d_M_search_52 : decode b_M_search 52 = .ok (.iload 6, 2) := dd_M_search 30 (52, .iload 6, 2) rfl
theorem d_M_search_54 : decode b_M_search 54 = .ok (.bipush 8, 2) := dd_M_search 31 (54, .bipush 8, 2) rfl
theorem d_M_search_56 : decode b_M_search 56 = .ok (.idiv, 1) := dd_M_search 32 (56, .idiv, 1) rfl
theorem d_M_search_57 : decode b_M_search 57 = .ok (.iload 6, 2) := dd_M_search 33 (57, .iload 6, 2) rfl
theorem d_M_search_59 : decode b_M_search 59 = .ok (.bipush 8, 2) := dd_M_search 34 (59, .bipush 8, 2) rfl
theorem d_M_search_61 : decode b_M_search 61 = .ok (.irem, 1) := dd_M_search 35 (61, .irem, 1) rfl
theorem d_M_search_62 : decode b_M_search 62 = .ok (.invokevirtual 105, 3) := dd_M_search 36 (62, .invokevirtual 105, 3) rfl
theorem d_M_search_65 : decode b_M_search 65 = .ok (.aload_n 0, 1) := dd_M_search 37 (65, .aload_n 0, 1) rfl
theorem d_M_search_66 : decode b_M_search 66 = .ok (.getfield 37, 3) := dd_M_search 38 (66, .getfield 37, 3) rfl
theorem d_M_search_69 : decode b_M_search 69 = .ok (.iload_n 3, 1) := dd_M_search 39 (69, .iload_n 3, 1) rfl
theorem d_M_search_70 : decode b_M_search 70 = .ok (.iload 4, 2) := dd_M_search 40 (70, .iload 4, 2) rfl
theorem d_M_search_72 : decode b_M_search 72 = .ok (.invokestatic 77, 3) := dd_M_search 41 (72, .invokestatic 77, 3) rfl
theorem d_M_search_75 : decode b_M_search 75 = .ok (.istore 7, 2) := dd_M_search 42 (75, .istore 7, 2) rfl
theorem d_M_search_77 : decode b_M_search 77 = .ok (.iconst 1, 1) := dd_M_search 43 (77, .iconst 1, 1) rfl
theorem d_M_search_78 : decode b_M_search 78 = .ok (.istore 8, 2) := dd_M_search 44 (78, .istore 8, 2) rfl
theorem d_M_search_80 : decode b_M_search 80 = .ok (.iconst 0, 1) := dd_M_search 45 (80, .iconst 0, 1) rfl
theorem d_M_search_81 : decode b_M_search 81 = .ok (.istore 9, 2) := dd_M_search 46 (81, .istore 9, 2) rfl
theorem d_M_search_83 : decode b_M_search 83 = .ok (.iload 9, 2) := dd_M_search 47 (83, .iload 9, 2) rfl
theorem d_M_search_85 : decode b_M_search 85 = .ok (.iconst 4, 1) := dd_M_search 48 (85, .iconst 4, 1) rfl
theorem d_M_search_86 : decode b_M_search 86 = .ok (.if_icmp .ge 36, 3) := dd_M_search 49 (86, .if_icmp .ge 36, 3) rfl
theorem d_M_search_89 : decode b_M_search 89 = .ok (.iload 8, 2) := dd_M_search 50 (89, .iload 8, 2) rfl
theorem d_M_search_91 : decode b_M_search 91 = .ok (.ifCond .eq 22, 3) := dd_M_search 51 (91, .ifCond .eq 22, 3) rfl
theorem d_M_search_94 : decode b_M_search 94 = .ok (.aload_n 0, 1) := dd_M_search 52 (94, .aload_n 0, 1) rfl
theorem d_M_search_95 : decode b_M_search 95 = .ok (.getfield 37, 3) := dd_M_search 53 (95, .getfield 37, 3) rfl
theorem d_M_search_98 : decode b_M_search 98 = .ok (.iload_n 3, 1) := dd_M_search 54 (98, .iload_n 3, 1) rfl
theorem d_M_search_99 : decode b_M_search 99 = .ok (.iload 9, 2) := dd_M_search 55 (99, .iload 9, 2) rfl
theorem d_M_search_101 : decode b_M_search 101 = .ok (.invokestatic 77, 3) := dd_M_search 56 (101, .invokestatic 77, 3) rfl
theorem d_M_search_104 : decode b_M_search 104 = .ok (.iload 7, 2) := dd_M_search 57 (104, .iload 7, 2) rfl
theorem d_M_search_106 : decode b_M_search 106 = .ok (.if_icmp .gt 7, 3) := dd_M_search 58 (106, .if_icmp .gt 7, 3) rfl
theorem d_M_search_109 : decode b_M_search 109 = .ok (.iconst 1, 1) := dd_M_search 59 (109, .iconst 1, 1) rfl
theorem d_M_search_110 : decode b_M_search 110 = .ok (.goto 4, 3) := dd_M_search 60 (110, .goto 4, 3) rfl
theorem d_M_search_113 : decode b_M_search 113 = .ok (.iconst 0, 1) := dd_M_search 61 (113, .iconst 0, 1) rfl
theorem d_M_search_114 : decode b_M_search 114 = .ok (.istore 8, 2) := dd_M_search 62 (114, .istore 8, 2) rfl
theorem d_M_search_116 : decode b_M_search 116 = .ok (.iinc 9 1, 3) := dd_M_search 63 (116, .iinc 9 1, 3) rfl
theorem d_M_search_119 : decode b_M_search 119 = .ok (.goto (-36), 3) := dd_M_search 64 (119, .goto (-36), 3) rfl
theorem d_M_search_122 : decode b_M_search 122 = .ok (.iload 8, 2) := dd_M_search 65 (122, .iload 8, 2) rfl
theorem d_M_search_124 : decode b_M_search 124 = .ok (.ifCond .eq 28, 3) := dd_M_search 66 (124, .ifCond .eq 28, 3) rfl
theorem d_M_search_127 : decode b_M_search 127 = .ok (.aload_n 0, 1) := dd_M_search 67 (127, .aload_n 0, 1) rfl
theorem d_M_search_128 : decode b_M_search 128 = .ok (.dup, 1) := dd_M_search 68 (128, .dup, 1) rfl
theorem d_M_search_129 : decode b_M_search 129 = .ok (.getfield 108, 3) := dd_M_search 69 (129, .getfield 108, 3) rfl
theorem d_M_search_132 : decode b_M_search 132 = .ok (.iconst 1, 1) := dd_M_search 70 (132, .iconst 1, 1) rfl
theorem d_M_search_133 : decode b_M_search 133 = .ok (.iadd, 1) := dd_M_search 71 (133, .iadd, 1) rfl
theorem d_M_search_134 : decode b_M_search 134 = .ok (.putfield 108, 3) := dd_M_search 72 (134, .putfield 108, 3) rfl
theorem d_M_search_137 : decode b_M_search 137 = .ok (.aload_n 0, 1) := dd_M_search 73 (137, .aload_n 0, 1) rfl
theorem d_M_search_138 : decode b_M_search 138 = .ok (.iload_n 3, 1) := dd_M_search 74 (138, .iload_n 3, 1) rfl
theorem d_M_search_139 : decode b_M_search 139 = .ok (.iload 6, 2) := dd_M_search 75 (139, .iload 6, 2) rfl
theorem d_M_search_141 : decode b_M_search 141 = .ok (.bipush 8, 2) := dd_M_search 76 (141, .bipush 8, 2) rfl
theorem d_M_search_143 : decode b_M_search 143 = .ok (.idiv, 1) := dd_M_search 77 (143, .idiv, 1) rfl
theorem d_M_search_144 : decode b_M_search 144 = .ok (.iload 6, 2) := dd_M_search 78 (144, .iload 6, 2) rfl
theorem d_M_search_146 : decode b_M_search 146 = .ok (.bipush 8, 2) := dd_M_search 79 (146, .bipush 8, 2) rfl
theorem d_M_search_148 : decode b_M_search 148 = .ok (.irem, 1) := dd_M_search 80 (148, .irem, 1) rfl
theorem d_M_search_149 : decode b_M_search 149 = .ok (.invokevirtual 111, 3) := dd_M_search 81 (149, .invokevirtual 111, 3) rfl
theorem d_M_search_152 : decode b_M_search 152 = .ok (.iinc 6 1, 3) := dd_M_search 82 (152, .iinc 6 1, 3) rfl
theorem d_M_search_155 : decode b_M_search 155 = .ok (.goto (-115), 3) := dd_M_search 83 (155, .goto (-115), 3) rfl
theorem d_M_search_158 : decode b_M_search 158 = .ok (.return_, 1) := dd_M_search 84 (158, .return_, 1) rfl
def tb_M_pileUp : List (Nat × Instr × Nat) := [(0, .aload_n 0, 1), (1, .getfield 25, 3), (4, .iconst 3, 1), (5, .aload_n 0, 1), (6, .getfield 114, 3), (9, .imul, 1), (10, .iload_n 1, 1), (11, .iastore, 1), (12, .aload_n 0, 1), (13, .getfield 25, 3), (16, .iconst 3, 1), (17, .aload_n 0, 1), (18, .getfield 114, 3), (21, .imul, 1), (22, .iconst 1, 1), (23, .iadd, 1), (24, .iload_n 2, 1), (25, .iastore, 1), (26, .aload_n 0, 1), (27, .getfield 25, 3), (30, .iconst 3, 1), (31, .aload_n 0, 1), (32, .getfield 114, 3), (35, .imul, 1), (36, .iconst 2, 1), (37, .iadd, 1), (38, .iload_n 3, 1), (39, .iastore, 1), (40, .aload_n 0, 1), (41, .dup, 1), (42, .getfield 114, 3), (45, .iconst 1, 1), (46, .iadd, 1), (47, .putfield 114, 3), (50, .return_, 1)]
theorem dd_M_pileUp : ∀ (i : Nat) (q : Nat × Instr × Nat), tb_M_pileUp[i]? = some q → decode b_M_pileUp q.1 = .ok (q.2.1, q.2.2) := z_tab (by decide +kernel)
theorem d_M_pileUp_0 : decode b_M_pileUp 0 = .ok (.aload_n 0, 1) := dd_M_pileUp 0 (0, .aload_n 0, 1) rfl
theorem d_M_pileUp_1 : decode b_M_pileUp 1 = .ok (.getfield 25, 3) := dd_M_pileUp 1 (1, .getfield 25, 3) rfl
theorem d_M_pileUp_4 : decode b_M_pileUp 4 = .ok (.iconst 3, 1) := dd_M_pileUp 2 (4, .iconst 3, 1) rfl
theorem d_M_pileUp_5 : decode b_M_pileUp 5 = .ok (.aload_n 0, 1) := dd_M_pileUp 3 (5, .aload_n 0, 1) rfl
theorem d_M_pileUp_6 : decode b_M_pileUp 6 = .ok (.getfield 114, 3) := dd_M_pileUp 4 (6, .getfield 114, 3) rfl
theorem d_M_pileUp_9 : decode b_M_pileUp 9 = .ok (.imul, 1) := dd_M_pileUp 5 (9, .imul, 1) rfl
theorem d_M_pileUp_10 : decode b_M_pileUp 10 = .ok (.iload_n 1, 1) := dd_M_pileUp 6 (10, .iload_n 1, 1) rfl
theorem d_M_pileUp_11 : decode b_M_pileUp 11 = .ok (.iastore, 1) := dd_M_pileUp 7 (11, .iastore, 1) rfl
theorem d_M_pileUp_12 : decode b_M_pileUp 12 = .ok (.aload_n 0, 1) := dd_M_pileUp 8 (12, .aload_n 0, 1) rfl
theorem d_M_pileUp_13 : decode b_M_pileUp 13 = .ok (.getfield 25, 3) := dd_M_pileUp 9 (13, .getfield 25, 3) rfl
theorem d_M_pileUp_16 : decode b_M_pileUp 16 = .ok (.iconst 3, 1) := dd_M_pileUp 10 (16, .iconst 3, 1) rfl
theorem d_M_pileUp_17 : decode b_M_pileUp 17 = .ok (.aload_n 0, 1) := dd_M_pileUp 11 (17, .aload_n 0, 1) rfl
theorem d_M_pileUp_18 : decode b_M_pileUp 18 = .ok (.getfield 114, 3) := dd_M_pileUp 12 (18, .getfield 114, 3) rfl
theorem d_M_pileUp_21 : decode b_M_pileUp 21 = .ok (.imul, 1) := dd_M_pileUp 13 (21, .imul, 1) rfl
theorem d_M_pileUp_22 : decode b_M_pileUp 22 = .ok (.iconst 1, 1) := dd_M_pileUp 14 (22, .iconst 1, 1) rfl
theorem d_M_pileUp_23 : decode b_M_pileUp 23 = .ok (.iadd, 1) := dd_M_pileUp 15 (23, .iadd, 1) rfl
theorem d_M_pileUp_24 : decode b_M_pileUp 24 = .ok (.iload_n 2, 1) := dd_M_pileUp 16 (24, .iload_n 2, 1) rfl
theorem d_M_pileUp_25 : decode b_M_pileUp 25 = .ok (.iastore, 1) := dd_M_pileUp 17 (25, .iastore, 1) rfl
theorem d_M_pileUp_26 : decode b_M_pileUp 26 = .ok (.aload_n 0, 1) := dd_M_pileUp 18 (26, .aload_n 0, 1) rfl
theorem d_M_pileUp_27 : decode b_M_pileUp 27 = .ok (.getfield 25, 3) := dd_M_pileUp 19 (27, .getfield 25, 3) rfl
theorem d_M_pileUp_30 : decode b_M_pileUp 30 = .ok (.iconst 3, 1) := dd_M_pileUp 20 (30, .iconst 3, 1) rfl
theorem d_M_pileUp_31 : decode b_M_pileUp 31 = .ok (.aload_n 0, 1) := dd_M_pileUp 21 (31, .aload_n 0, 1) rfl
theorem d_M_pileUp_32 : decode b_M_pileUp 32 = .ok (.getfield 114, 3) := dd_M_pileUp 22 (32, .getfield 114, 3) rfl
theorem d_M_pileUp_35 : decode b_M_pileUp 35 = .ok (.imul, 1) := dd_M_pileUp 23 (35, .imul, 1) rfl
theorem d_M_pileUp_36 : decode b_M_pileUp 36 = .ok (.iconst 2, 1) := dd_M_pileUp 24 (36, .iconst 2, 1) rfl
theorem d_M_pileUp_37 : decode b_M_pileUp 37 = .ok (.iadd, 1) := dd_M_pileUp 25 (37, .iadd, 1) rfl
theorem d_M_pileUp_38 : decode b_M_pileUp 38 = .ok (.iload_n 3, 1) := dd_M_pileUp 26 (38, .iload_n 3, 1) rfl
theorem d_M_pileUp_39 : decode b_M_pileUp 39 = .ok (.iastore, 1) := dd_M_pileUp 27 (39, .iastore, 1) rfl
theorem d_M_pileUp_40 : decode b_M_pileUp 40 = .ok (.aload_n 0, 1) := dd_M_pileUp 28 (40, .aload_n 0, 1) rfl
theorem d_M_pileUp_41 : decode b_M_pileUp 41 = .ok (.dup, 1) := dd_M_pileUp 29 (41, .dup, 1) rfl
theorem d_M_pileUp_42 : decode b_M_pileUp 42 = .ok (.getfield 114, 3) := dd_M_pileUp 30 (42, .getfield 114, 3) rfl
theorem d_M_pileUp_45 : decode b_M_pileUp 45 = .ok (.iconst 1, 1) := dd_M_pileUp 31 (45, .iconst 1, 1) rfl
theorem d_M_pileUp_46 : decode b_M_pileUp 46 = .ok (.iadd, 1) := dd_M_pileUp 32 (46, .iadd, 1) rfl
theorem d_M_pileUp_47 : decode b_M_pileUp 47 = .ok (.putfield 114, 3) := dd_M_pileUp 33 (47, .putfield 114, 3) rfl
theorem d_M_pileUp_50 : decode b_M_pileUp 50 = .ok (.return_, 1) := dd_M_pileUp 34 (50, .return_, 1) rfl
def tb_M_pileQuarters : List (Nat × Instr × Nat) := [(0, .iload_n 3, 1), (1, .iconst 2, 1), (2, .idiv, 1), (3, .istore 4, 2), (5, .aload_n 0, 1), (6, .iload_n 1, 1), (7, .iload 4, 2), (9, .iadd, 1), (10, .iload_n 2, 1), (11, .iload 4, 2), (13, .iadd, 1), (14, .iload 4, 2), (16, .invokevirtual 117, 3), (19, .aload_n 0, 1), (20, .iload_n 1, 1), (21, .iload_n 2, 1), (22, .iload 4, 2), (24, .iadd, 1), (25, .iload 4, 2), (27, .invokevirtual 117, 3), (30, .aload_n 0, 1), (31, .iload_n 1, 1), (32, .iload 4, 2), (34, .iadd, 1), (35, .iload_n 2, 1), (36, .iload 4, 2), (38, .invokevirtual 117, 3), (41, .aload_n 0, 1), (42, .iload_n 1, 1), (43, .iload_n 2, 1), (44, .iload 4, 2), (46, .invokevirtual 117, 3), (49, .return_, 1)]
theorem dd_M_pileQuarters : ∀ (i : Nat) (q : Nat × Instr × Nat), tb_M_pileQuarters[i]? = some q → decode b_M_pileQuarters q.1 = .ok (q.2.1, q.2.2) := z_tab (by decide +kernel)
theorem d_M_pileQuarters_0 : decode b_M_pileQuarters 0 = .ok (.iload_n 3, 1) := dd_M_pileQuarters 0 (0, .iload_n 3, 1) rfl
theorem d_M_pileQuarters_1 : decode b_M_pileQuarters 1 = .ok (.iconst 2, 1) := dd_M_pileQuarters 1 (1, .iconst 2, 1) rfl
theorem d_M_pileQuarters_2 : decode b_M_pileQuarters 2 = .ok (.idiv, 1) := dd_M_pileQuarters 2 (2, .idiv, 1) rfl
theorem d_M_pileQuarters_3 : decode b_M_pileQuarters 3 = .ok (.istore 4, 2) := dd_M_pileQuarters 3 (3, .istore 4, 2) rfl
theorem d_M_pileQuarters_5 : decode b_M_pileQuarters 5 = .ok (.aload_n 0, 1) := dd_M_pileQuarters 4 (5, .aload_n 0, 1) rfl
theorem d_M_pileQuarters_6 : decode b_M_pileQuarters 6 = .ok (.iload_n 1, 1) := dd_M_pileQuarters 5 (6, .iload_n 1, 1) rfl
theorem d_M_pileQuarters_7 : decode b_M_pileQuarters 7 = .ok (.iload 4, 2) := dd_M_pileQuarters 6 (7, .iload 4, 2) rfl
theorem d_M_pileQuarters_9 : decode b_M_pileQuarters 9 = .ok (.iadd, 1) := dd_M_pileQuarters 7 (9, .iadd, 1) rfl
theorem d_M_pileQuarters_10 : decode b_M_pileQuarters 10 = .ok (.iload_n 2, 1) := dd_M_pileQuarters 8 (10, .iload_n 2, 1) rfl
theorem d_M_pileQuarters_11 : decode b_M_pileQuarters 11 = .ok (.iload 4, 2) := dd_M_pileQuarters 9 (11, .iload 4, 2) rfl
theorem d_M_pileQuarters_13 : decode b_M_pileQuarters 13 = .ok (.iadd, 1) := dd_M_pileQuarters 10 (13, .iadd, 1) rfl
theorem d_M_pileQuarters_14 : decode b_M_pileQuarters 14 = .ok (.iload 4, 2) := dd_M_pileQuarters 11 (14, .iload 4, 2) rfl
theorem d_M_pileQuarters_16 : decode b_M_pileQuarters 16 = .ok (.invokevirtual 117, 3) := dd_M_pileQuarters 12 (16, .invokevirtual 117, 3) rfl
theorem d_M_pileQuarters_19 : decode b_M_pileQuarters 19 = .ok (.aload_n 0, 1) := dd_M_pileQuarters 13 (19, .aload_n 0, 1) rfl
theorem d_M_pileQuarters_20 : decode b_M_pileQuarters 20 = .ok (.iload_n 1, 1) := dd_M_pileQuarters 14 (20, .iload_n 1, 1) rfl
theorem d_M_pileQuarters_21 : decode b_M_pileQuarters 21 = .ok (.iload_n 2, 1) := dd_M_pileQuarters 15 (21, .iload_n 2, 1) rfl
theorem d_M_pileQuarters_22 : decode b_M_pileQuarters 22 = .ok (.iload 4, 2) := dd_M_pileQuarters 16 (22, .iload 4, 2) rfl
theorem d_M_pileQuarters_24 : decode b_M_pileQuarters 24 = .ok (.iadd, 1) := dd_M_pileQuarters 17 (24, .iadd, 1) rfl
theorem d_M_pileQuarters_25 : decode b_M_pileQuarters 25 = .ok (.iload 4, 2) := dd_M_pileQuarters 18 (25, .iload 4, 2) rfl
theorem d_M_pileQuarters_27 : decode b_M_pileQuarters 27 = .ok (.invokevirtual 117, 3) := dd_M_pileQuarters 19 (27, .invokevirtual 117, 3) rfl
theorem d_M_pileQuarters_30 : decode b_M_pileQuarters 30 = .ok (.aload_n 0, 1) := dd_M_pileQuarters 20 (30, .aload_n 0, 1) rfl
theorem d_M_pileQuarters_31 : decode b_M_pileQuarters 31 = .ok (.iload_n 1, 1) := dd_M_pileQuarters 21 (31, .iload_n 1, 1) rfl
theorem d_M_pileQuarters_32 : decode b_M_pileQuarters 32 = .ok (.iload 4, 2) := dd_M_pileQuarters 22 (32, .iload 4, 2) rfl
theorem d_M_pileQuarters_34 : decode b_M_pileQuarters 34 = .ok (.iadd, 1) := dd_M_pileQuarters 23 (34, .iadd, 1) rfl
theorem d_M_pileQuarters_35 : decode b_M_pileQuarters 35 = .ok (.iload_n 2, 1) := dd_M_pileQuarters 24 (35, .iload_n 2, 1) rfl
theorem d_M_pileQuarters_36 : decode b_M_pileQuarters 36 = .ok (.iload 4, 2) := dd_M_pileQuarters 25 (36, .iload 4, 2) rfl
theorem d_M_pileQuarters_38 : decode b_M_pileQuarters 38 = .ok (.invokevirtual 117, 3) := dd_M_pileQuarters 26 (38, .invokevirtual 117, 3) rfl
theorem d_M_pileQuarters_41 : decode b_M_pileQuarters 41 = .ok (.aload_n 0, 1) := dd_M_pileQuarters 27 (41, .aload_n 0, 1) rfl
theorem d_M_pileQuarters_42 : decode b_M_pileQuarters 42 = .ok (.iload_n 1, 1) := dd_M_pileQuarters 28 (42, .iload_n 1, 1) rfl
theorem d_M_pileQuarters_43 : decode b_M_pileQuarters 43 = .ok (.iload_n 2, 1) := dd_M_pileQuarters 29 (43, .iload_n 2, 1) rfl
theorem d_M_pileQuarters_44 : decode b_M_pileQuarters 44 = .ok (.iload 4, 2) := dd_M_pileQuarters 30 (44, .iload 4, 2) rfl
theorem d_M_pileQuarters_46 : decode b_M_pileQuarters 46 = .ok (.invokevirtual 117, 3) := dd_M_pileQuarters 31 (46, .invokevirtual 117, 3) rfl
theorem d_M_pileQuarters_49 : decode b_M_pileQuarters 49 = .ok (.return_, 1) := dd_M_pileQuarters 32 (49, .return_, 1) rfl
def tb_M_note : List (Nat × Instr × Nat) := [(0, .bipush 8, 2), (2, .sipush 256, 3), (5, .aload_n 0, 1), (6, .getfield 120, 3), (9, .iadd, 1), (10, .imul, 1), (11, .istore 5, 2), (13, .aload_n 0, 1), (14, .getfield 16, 3), (17, .iload 5, 2), (19, .iload_n 1, 1), (20, .iastore, 1), (21, .aload_n 0, 1), (22, .getfield 16, 3), (25, .iload 5, 2), (27, .iconst 1, 1), (28, .iadd, 1), (29, .iload_n 2, 1), (30, .iastore, 1), (31, .aload_n 0, 1), (32, .getfield 16, 3), (35, .iload 5, 2), (37, .iconst 2, 1), (38, .iadd, 1), (39, .iload_n 3, 1), (40, .iastore, 1), (41, .iconst 0, 1), (42, .istore 6, 2), (44, .iload 6, 2), (46, .iconst 4, 1), (47, .if_icmp .ge 28, 3), (50, .aload_n 0, 1), (51, .getfield 16, 3), (54, .iload 5, 2), (56, .iconst 3, 1), (57, .iadd, 1), (58, .iload 6, 2), (60, .iadd, 1), (61, .aload_n 0, 1), (62, .getfield 43, 3), (65, .iload 6, 2), (67, .iaload, 1), (68, .iastore, 1), (69, .iinc 6 1, 3), (72, .goto (-28), 3), (75, .aload_n 0, 1), (76, .getfield 16, 3), (79, .iload 5, 2), (81, .bipush 7, 2), (83, .iadd, 1), (84, .iload 4, 2), (86, .iastore, 1), (87, .aload_n 0, 1), (88, .dup, 1), (89, .getfield 120, 3), (92, .iconst 1, 1), (93, .iadd, 1), (94, .putfield 120, 3), (97, .return_, 1)]
theorem dd_M_note : ∀ (i : Nat) (q : Nat × Instr × Nat), tb_M_note[i]? = some q → decode b_M_note q.1 = .ok (q.2.1, q.2.2) := z_tab (by decide +kernel)
theorem d_M_note_0 : decode b_M_note 0 = .ok (.bipush 8, 2) := dd_M_note 0 (0, .bipush 8, 2) rfl
theorem d_M_note_2 : decode b_M_note 2 = .ok (.sipush 256, 3) := dd_M_note 1 (2, .sipush 256, 3) rfl
theorem d_M_note_5 : decode b_M_note 5 = .ok (.aload_n 0, 1) := dd_M_note 2 (5, .aload_n 0, 1) rfl
theorem d_M_note_6 : decode b_M_note 6 = .ok (.getfield 120, 3) := dd_M_note 3 (6, .getfield 120, 3) rfl
theorem d_M_note_9 : decode b_M_note 9 = .ok (.iadd, 1) := dd_M_note 4 (9, .iadd, 1) rfl
theorem d_M_note_10 : decode b_M_note 10 = .ok (.imul, 1) := dd_M_note 5 (10, .imul, 1) rfl
theorem d_M_note_11 : decode b_M_note 11 = .ok (.istore 5, 2) := dd_M_note 6 (11, .istore 5, 2) rfl
theorem d_M_note_13 : decode b_M_note 13 = .ok (.aload_n 0, 1) := dd_M_note 7 (13, .aload_n 0, 1) rfl
theorem d_M_note_14 : decode b_M_note 14 = .ok (.getfield 16, 3) := dd_M_note 8 (14, .getfield 16, 3) rfl
theorem d_M_note_17 : decode b_M_note 17 = .ok (.iload 5, 2) := dd_M_note 9 (17, .iload 5, 2) rfl
theorem d_M_note_19 : decode b_M_note 19 = .ok (.iload_n 1, 1) := dd_M_note 10 (19, .iload_n 1, 1) rfl
theorem d_M_note_20 : decode b_M_note 20 = .ok (.iastore, 1) := dd_M_note 11 (20, .iastore, 1) rfl
theorem d_M_note_21 : decode b_M_note 21 = .ok (.aload_n 0, 1) := dd_M_note 12 (21, .aload_n 0, 1) rfl
theorem d_M_note_22 : decode b_M_note 22 = .ok (.getfield 16, 3) := dd_M_note 13 (22, .getfield 16, 3) rfl
theorem d_M_note_25 : decode b_M_note 25 = .ok (.iload 5, 2) := dd_M_note 14 (25, .iload 5, 2) rfl
theorem d_M_note_27 : decode b_M_note 27 = .ok (.iconst 1, 1) := dd_M_note 15 (27, .iconst 1, 1) rfl
theorem d_M_note_28 : decode b_M_note 28 = .ok (.iadd, 1) := dd_M_note 16 (28, .iadd, 1) rfl
theorem d_M_note_29 : decode b_M_note 29 = .ok (.iload_n 2, 1) := dd_M_note 17 (29, .iload_n 2, 1) rfl
theorem d_M_note_30 : decode b_M_note 30 = .ok (.iastore, 1) := dd_M_note 18 (30, .iastore, 1) rfl
theorem d_M_note_31 : decode b_M_note 31 = .ok (.aload_n 0, 1) := dd_M_note 19 (31, .aload_n 0, 1) rfl
theorem d_M_note_32 : decode b_M_note 32 = .ok (.getfield 16, 3) := dd_M_note 20 (32, .getfield 16, 3) rfl
theorem d_M_note_35 : decode b_M_note 35 = .ok (.iload 5, 2) := dd_M_note 21 (35, .iload 5, 2) rfl
theorem d_M_note_37 : decode b_M_note 37 = .ok (.iconst 2, 1) := dd_M_note 22 (37, .iconst 2, 1) rfl
theorem d_M_note_38 : decode b_M_note 38 = .ok (.iadd, 1) := dd_M_note 23 (38, .iadd, 1) rfl
theorem d_M_note_39 : decode b_M_note 39 = .ok (.iload_n 3, 1) := dd_M_note 24 (39, .iload_n 3, 1) rfl
theorem d_M_note_40 : decode b_M_note 40 = .ok (.iastore, 1) := dd_M_note 25 (40, .iastore, 1) rfl
theorem d_M_note_41 : decode b_M_note 41 = .ok (.iconst 0, 1) := dd_M_note 26 (41, .iconst 0, 1) rfl
theorem d_M_note_42 : decode b_M_note 42 = .ok (.istore 6, 2) := dd_M_note 27 (42, .istore 6, 2) rfl
theorem d_M_note_44 : decode b_M_note 44 = .ok (.iload 6, 2) := dd_M_note 28 (44, .iload 6, 2) rfl
theorem d_M_note_46 : decode b_M_note 46 = .ok (.iconst 4, 1) := dd_M_note 29 (46, .iconst 4, 1) rfl
theorem d_M_note_47 : decode b_M_note 47 = .ok (.if_icmp .ge 28, 3) := dd_M_note 30 (47, .if_icmp .ge 28, 3) rfl
theorem d_M_note_50 : decode b_M_note 50 = .ok (.aload_n 0, 1) := dd_M_note 31 (50, .aload_n 0, 1) rfl
theorem d_M_note_51 : decode b_M_note 51 = .ok (.getfield 16, 3) := dd_M_note 32 (51, .getfield 16, 3) rfl
theorem d_M_note_54 : decode b_M_note 54 = .ok (.iload 5, 2) := dd_M_note 33 (54, .iload 5, 2) rfl
theorem d_M_note_56 : decode b_M_note 56 = .ok (.iconst 3, 1) := dd_M_note 34 (56, .iconst 3, 1) rfl
theorem d_M_note_57 : decode b_M_note 57 = .ok (.iadd, 1) := dd_M_note 35 (57, .iadd, 1) rfl
theorem d_M_note_58 : decode b_M_note 58 = .ok (.iload 6, 2) := dd_M_note 36 (58, .iload 6, 2) rfl
theorem d_M_note_60 : decode b_M_note 60 = .ok (.iadd, 1) := dd_M_note 37 (60, .iadd, 1) rfl
theorem d_M_note_61 : decode b_M_note 61 = .ok (.aload_n 0, 1) := dd_M_note 38 (61, .aload_n 0, 1) rfl
theorem d_M_note_62 : decode b_M_note 62 = .ok (.getfield 43, 3) := dd_M_note 39 (62, .getfield 43, 3) rfl
theorem d_M_note_65 : decode b_M_note 65 = .ok (.iload 6, 2) := dd_M_note 40 (65, .iload 6, 2) rfl
theorem d_M_note_67 : decode b_M_note 67 = .ok (.iaload, 1) := dd_M_note 41 (67, .iaload, 1) rfl
theorem d_M_note_68 : decode b_M_note 68 = .ok (.iastore, 1) := dd_M_note 42 (68, .iastore, 1) rfl
theorem d_M_note_69 : decode b_M_note 69 = .ok (.iinc 6 1, 3) := dd_M_note 43 (69, .iinc 6 1, 3) rfl
theorem d_M_note_72 : decode b_M_note 72 = .ok (.goto (-28), 3) := dd_M_note 44 (72, .goto (-28), 3) rfl
theorem d_M_note_75 : decode b_M_note 75 = .ok (.aload_n 0, 1) := dd_M_note 45 (75, .aload_n 0, 1) rfl
theorem d_M_note_76 : decode b_M_note 76 = .ok (.getfield 16, 3) := dd_M_note 46 (76, .getfield 16, 3) rfl
theorem d_M_note_79 : decode b_M_note 79 = .ok (.iload 5, 2) := dd_M_note 47 (79, .iload 5, 2) rfl
theorem d_M_note_81 : decode b_M_note 81 = .ok (.bipush 7, 2) := dd_M_note 48 (81, .bipush 7, 2) rfl
theorem d_M_note_83 : decode b_M_note 83 = .ok (.iadd, 1) := dd_M_note 49 (83, .iadd, 1) rfl
theorem d_M_note_84 : decode b_M_note 84 = .ok (.iload 4, 2) := dd_M_note 50 (84, .iload 4, 2) rfl
theorem d_M_note_86 : decode b_M_note 86 = .ok (.iastore, 1) := dd_M_note 51 (86, .iastore, 1) rfl
theorem d_M_note_87 : decode b_M_note 87 = .ok (.aload_n 0, 1) := dd_M_note 52 (87, .aload_n 0, 1) rfl
theorem d_M_note_88 : decode b_M_note 88 = .ok (.dup, 1) := dd_M_note 53 (88, .dup, 1) rfl
theorem d_M_note_89 : decode b_M_note 89 = .ok (.getfield 120, 3) := dd_M_note 54 (89, .getfield 120, 3) rfl
theorem d_M_note_92 : decode b_M_note 92 = .ok (.iconst 1, 1) := dd_M_note 55 (92, .iconst 1, 1) rfl
theorem d_M_note_93 : decode b_M_note 93 = .ok (.iadd, 1) := dd_M_note 56 (93, .iadd, 1) rfl
theorem d_M_note_94 : decode b_M_note 94 = .ok (.putfield 120, 3) := dd_M_note 57 (94, .putfield 120, 3) rfl
theorem d_M_note_97 : decode b_M_note 97 = .ok (.return_, 1) := dd_M_note 58 (97, .return_, 1) rfl
def tb_M_takeFound : List (Nat × Instr × Nat) := [(0, .iconst 0, 1), (1, .istore_n 1, 1), (2, .iload_n 1, 1), (3, .bipush 8, 2), (5, .aload_n 0, 1), (6, .getfield 120, 3), (9, .imul, 1), (10, .if_icmp .ge 25, 3), (13, .aload_n 0, 1), (14, .getfield 16, 3), (17, .iload_n 1, 1), (18, .aload_n 0, 1), (19, .getfield 16, 3), (22, .sipush 2048, 3), (25, .iload_n 1, 1), (26, .iadd, 1), (27, .iaload, 1), (28, .iastore, 1), (29, .iinc 1 1, 3), (32, .goto (-30), 3), (35, .aload_n 0, 1), (36, .aload_n 0, 1), (37, .getfield 120, 3), (40, .putfield 123, 3), (43, .return_, 1)]
theorem dd_M_takeFound : ∀ (i : Nat) (q : Nat × Instr × Nat), tb_M_takeFound[i]? = some q → decode b_M_takeFound q.1 = .ok (q.2.1, q.2.2) := z_tab (by decide +kernel)
theorem d_M_takeFound_0 : decode b_M_takeFound 0 = .ok (.iconst 0, 1) := dd_M_takeFound 0 (0, .iconst 0, 1) rfl
theorem d_M_takeFound_1 : decode b_M_takeFound 1 = .ok (.istore_n 1, 1) := dd_M_takeFound 1 (1, .istore_n 1, 1) rfl
theorem d_M_takeFound_2 : decode b_M_takeFound 2 = .ok (.iload_n 1, 1) := dd_M_takeFound 2 (2, .iload_n 1, 1) rfl
theorem d_M_takeFound_3 : decode b_M_takeFound 3 = .ok (.bipush 8, 2) := dd_M_takeFound 3 (3, .bipush 8, 2) rfl
theorem d_M_takeFound_5 : decode b_M_takeFound 5 = .ok (.aload_n 0, 1) := dd_M_takeFound 4 (5, .aload_n 0, 1) rfl
theorem d_M_takeFound_6 : decode b_M_takeFound 6 = .ok (.getfield 120, 3) := dd_M_takeFound 5 (6, .getfield 120, 3) rfl
theorem d_M_takeFound_9 : decode b_M_takeFound 9 = .ok (.imul, 1) := dd_M_takeFound 6 (9, .imul, 1) rfl
theorem d_M_takeFound_10 : decode b_M_takeFound 10 = .ok (.if_icmp .ge 25, 3) := dd_M_takeFound 7 (10, .if_icmp .ge 25, 3) rfl
theorem d_M_takeFound_13 : decode b_M_takeFound 13 = .ok (.aload_n 0, 1) := dd_M_takeFound 8 (13, .aload_n 0, 1) rfl
theorem d_M_takeFound_14 : decode b_M_takeFound 14 = .ok (.getfield 16, 3) := dd_M_takeFound 9 (14, .getfield 16, 3) rfl
theorem d_M_takeFound_17 : decode b_M_takeFound 17 = .ok (.iload_n 1, 1) := dd_M_takeFound 10 (17, .iload_n 1, 1) rfl
theorem d_M_takeFound_18 : decode b_M_takeFound 18 = .ok (.aload_n 0, 1) := dd_M_takeFound 11 (18, .aload_n 0, 1) rfl
theorem d_M_takeFound_19 : decode b_M_takeFound 19 = .ok (.getfield 16, 3) := dd_M_takeFound 12 (19, .getfield 16, 3) rfl
theorem d_M_takeFound_22 : decode b_M_takeFound 22 = .ok (.sipush 2048, 3) := dd_M_takeFound 13 (22, .sipush 2048, 3) rfl
theorem d_M_takeFound_25 : decode b_M_takeFound 25 = .ok (.iload_n 1, 1) := dd_M_takeFound 14 (25, .iload_n 1, 1) rfl
theorem d_M_takeFound_26 : decode b_M_takeFound 26 = .ok (.iadd, 1) := dd_M_takeFound 15 (26, .iadd, 1) rfl
theorem d_M_takeFound_27 : decode b_M_takeFound 27 = .ok (.iaload, 1) := dd_M_takeFound 16 (27, .iaload, 1) rfl
theorem d_M_takeFound_28 : decode b_M_takeFound 28 = .ok (.iastore, 1) := dd_M_takeFound 17 (28, .iastore, 1) rfl
theorem d_M_takeFound_29 : decode b_M_takeFound 29 = .ok (.iinc 1 1, 3) := dd_M_takeFound 18 (29, .iinc 1 1, 3) rfl
theorem d_M_takeFound_32 : decode b_M_takeFound 32 = .ok (.goto (-30), 3) := dd_M_takeFound 19 (32, .goto (-30), 3) rfl
theorem d_M_takeFound_35 : decode b_M_takeFound 35 = .ok (.aload_n 0, 1) := dd_M_takeFound 20 (35, .aload_n 0, 1) rfl
theorem d_M_takeFound_36 : decode b_M_takeFound 36 = .ok (.aload_n 0, 1) := dd_M_takeFound 21 (36, .aload_n 0, 1) rfl
theorem d_M_takeFound_37 : decode b_M_takeFound 37 = .ok (.getfield 120, 3) := dd_M_takeFound 22 (37, .getfield 120, 3) rfl
theorem d_M_takeFound_40 : decode b_M_takeFound 40 = .ok (.putfield 123, 3) := dd_M_takeFound 23 (40, .putfield 123, 3) rfl
theorem d_M_takeFound_43 : decode b_M_takeFound 43 = .ok (.return_, 1) := dd_M_takeFound 24 (43, .return_, 1) rfl
def tb_M_bitsFor : List (Nat × Instr × Nat) := [(0, .aload_n 0, 1), (1, .iload_n 1, 1), (2, .invokevirtual 69, 3), (5, .aload_n 0, 1), (6, .iload_n 1, 1), (7, .invokevirtual 69, 3), (10, .imul, 1), (11, .istore_n 2, 1), (12, .iconst 0, 1), (13, .istore_n 3, 1), (14, .iconst 1, 1), (15, .istore 4, 2), (17, .iload 4, 2), (19, .iload_n 2, 1), (20, .if_icmp .ge 15, 3), (23, .iconst 2, 1), (24, .iload 4, 2), (26, .imul, 1), (27, .istore 4, 2), (29, .iinc 3 1, 3), (32, .goto (-15), 3), (35, .iload_n 3, 1), (36, .ireturn, 1)]
theorem dd_M_bitsFor : ∀ (i : Nat) (q : Nat × Instr × Nat), tb_M_bitsFor[i]? = some q → decode b_M_bitsFor q.1 = .ok (q.2.1, q.2.2) := z_tab (by decide +kernel)
theorem d_M_bitsFor_0 : decode b_M_bitsFor 0 = .ok (.aload_n 0, 1) := dd_M_bitsFor 0 (0, .aload_n 0, 1) rfl
theorem d_M_bitsFor_1 : decode b_M_bitsFor 1 = .ok (.iload_n 1, 1) := dd_M_bitsFor 1 (1, .iload_n 1, 1) rfl
theorem d_M_bitsFor_2 : decode b_M_bitsFor 2 = .ok (.invokevirtual 69, 3) := dd_M_bitsFor 2 (2, .invokevirtual 69, 3) rfl
theorem d_M_bitsFor_5 : decode b_M_bitsFor 5 = .ok (.aload_n 0, 1) := dd_M_bitsFor 3 (5, .aload_n 0, 1) rfl
theorem d_M_bitsFor_6 : decode b_M_bitsFor 6 = .ok (.iload_n 1, 1) := dd_M_bitsFor 4 (6, .iload_n 1, 1) rfl
theorem d_M_bitsFor_7 : decode b_M_bitsFor 7 = .ok (.invokevirtual 69, 3) := dd_M_bitsFor 5 (7, .invokevirtual 69, 3) rfl
theorem d_M_bitsFor_10 : decode b_M_bitsFor 10 = .ok (.imul, 1) := dd_M_bitsFor 6 (10, .imul, 1) rfl
theorem d_M_bitsFor_11 : decode b_M_bitsFor 11 = .ok (.istore_n 2, 1) := dd_M_bitsFor 7 (11, .istore_n 2, 1) rfl
theorem d_M_bitsFor_12 : decode b_M_bitsFor 12 = .ok (.iconst 0, 1) := dd_M_bitsFor 8 (12, .iconst 0, 1) rfl
theorem d_M_bitsFor_13 : decode b_M_bitsFor 13 = .ok (.istore_n 3, 1) := dd_M_bitsFor 9 (13, .istore_n 3, 1) rfl
theorem d_M_bitsFor_14 : decode b_M_bitsFor 14 = .ok (.iconst 1, 1) := dd_M_bitsFor 10 (14, .iconst 1, 1) rfl
theorem d_M_bitsFor_15 : decode b_M_bitsFor 15 = .ok (.istore 4, 2) := dd_M_bitsFor 11 (15, .istore 4, 2) rfl
theorem d_M_bitsFor_17 : decode b_M_bitsFor 17 = .ok (.iload 4, 2) := dd_M_bitsFor 12 (17, .iload 4, 2) rfl
theorem d_M_bitsFor_19 : decode b_M_bitsFor 19 = .ok (.iload_n 2, 1) := dd_M_bitsFor 13 (19, .iload_n 2, 1) rfl
theorem d_M_bitsFor_20 : decode b_M_bitsFor 20 = .ok (.if_icmp .ge 15, 3) := dd_M_bitsFor 14 (20, .if_icmp .ge 15, 3) rfl
theorem d_M_bitsFor_23 : decode b_M_bitsFor 23 = .ok (.iconst 2, 1) := dd_M_bitsFor 15 (23, .iconst 2, 1) rfl
theorem d_M_bitsFor_24 : decode b_M_bitsFor 24 = .ok (.iload 4, 2) := dd_M_bitsFor 16 (24, .iload 4, 2) rfl
theorem d_M_bitsFor_26 : decode b_M_bitsFor 26 = .ok (.imul, 1) := dd_M_bitsFor 17 (26, .imul, 1) rfl
theorem d_M_bitsFor_27 : decode b_M_bitsFor 27 = .ok (.istore 4, 2) := dd_M_bitsFor 18 (27, .istore 4, 2) rfl
theorem d_M_bitsFor_29 : decode b_M_bitsFor 29 = .ok (.iinc 3 1, 3) := dd_M_bitsFor 19 (29, .iinc 3 1, 3) rfl
theorem d_M_bitsFor_32 : decode b_M_bitsFor 32 = .ok (.goto (-15), 3) := dd_M_bitsFor 20 (32, .goto (-15), 3) rfl
theorem d_M_bitsFor_35 : decode b_M_bitsFor 35 = .ok (.iload_n 3, 1) := dd_M_bitsFor 21 (35, .iload_n 3, 1) rfl
theorem d_M_bitsFor_36 : decode b_M_bitsFor 36 = .ok (.ireturn, 1) := dd_M_bitsFor 22 (36, .ireturn, 1) rfl
def tb_M_tell : List (Nat × Instr × Nat) := [(0, .iconst 1, 1), (1, .istore_n 3, 1), (2, .iconst 1, 1), (3, .istore 4, 2), (5, .iload 4, 2), (7, .iload_n 2, 1), (8, .if_icmp .ge 13, 3), (11, .iconst 2, 1), (12, .iload_n 3, 1), (13, .imul, 1), (14, .istore_n 3, 1), (15, .iinc 4 1, 3), (18, .goto (-13), 3), (21, .iconst 0, 1), (22, .istore 4, 2), (24, .iload 4, 2), (26, .iload_n 2, 1), (27, .if_icmp .ge 86, 3), (30, .aload_n 0, 1), (31, .getfield 126, 3), (34, .bipush 8, 2), (36, .idiv, 1), (37, .istore 5, 2), (39, .aload_n 0, 1), (40, .getfield 19, 3), (43, .iload 5, 2), (45, .aload_n 0, 1), (46, .getfield 126, 3), (49, .bipush 8, 2), (51, .irem, 1), (52, .ifCond .ne 7, 3), (55, .iconst 0, 1), (56, .goto 10, 3), (59, .aload_n 0, 1), (60, .getfield 19, 3), (63, .iload 5, 2), (65, .iaload, 1), (66, .iastore, 1), (67, .aload_n 0, 1), (68, .getfield 19, 3), (71, .iload 5, 2), (73, .dup2, 1), (74, .iaload, 1), (75, .iload_n 1, 1), (76, .iload_n 3, 1), (77, .idiv, 1), (78, .iconst 2, 1), (79, .irem, 1), (80, .bipush 7, 2), (82, .aload_n 0, 1), (83, .getfield 126, 3), (86, .bipush 8, 2), (88, .irem, 1), (89, .isub, 1), (90, .ishl, 1), (91, .iadd, 1), (92, .iastore, 1), (93, .aload_n 0, 1), (94, .dup, 1), (95, .getfield 126, 3), (98, .iconst 1, 1), (99, .iadd, 1), (100, .putfield 126, 3), (103, .iload_n 3, 1), (104, .iconst 2, 1), (105, .idiv, 1), (106, .istore_n 3, 1), (107, .iinc 4 1, 3), (110, .goto (-86), 3), (113, .return_, 1)]
theorem dd_M_tell : ∀ (i : Nat) (q : Nat × Instr × Nat), tb_M_tell[i]? = some q → decode b_M_tell q.1 = .ok (q.2.1, q.2.2) := z_tab (by decide +kernel)
theorem d_M_tell_0 : decode b_M_tell 0 = .ok (.iconst 1, 1) := dd_M_tell 0 (0, .iconst 1, 1) rfl
theorem d_M_tell_1 : decode b_M_tell 1 = .ok (.istore_n 3, 1) := dd_M_tell 1 (1, .istore_n 3, 1) rfl
theorem d_M_tell_2 : decode b_M_tell 2 = .ok (.iconst 1, 1) := dd_M_tell 2 (2, .iconst 1, 1) rfl
theorem d_M_tell_3 : decode b_M_tell 3 = .ok (.istore 4, 2) := dd_M_tell 3 (3, .istore 4, 2) rfl
theorem d_M_tell_5 : decode b_M_tell 5 = .ok (.iload 4, 2) := dd_M_tell 4 (5, .iload 4, 2) rfl
theorem d_M_tell_7 : decode b_M_tell 7 = .ok (.iload_n 2, 1) := dd_M_tell 5 (7, .iload_n 2, 1) rfl
theorem d_M_tell_8 : decode b_M_tell 8 = .ok (.if_icmp .ge 13, 3) := dd_M_tell 6 (8, .if_icmp .ge 13, 3) rfl
theorem d_M_tell_11 : decode b_M_tell 11 = .ok (.iconst 2, 1) := dd_M_tell 7 (11, .iconst 2, 1) rfl
theorem d_M_tell_12 : decode b_M_tell 12 = .ok (.iload_n 3, 1) := dd_M_tell 8 (12, .iload_n 3, 1) rfl
theorem d_M_tell_13 : decode b_M_tell 13 = .ok (.imul, 1) := dd_M_tell 9 (13, .imul, 1) rfl
theorem d_M_tell_14 : decode b_M_tell 14 = .ok (.istore_n 3, 1) := dd_M_tell 10 (14, .istore_n 3, 1) rfl
theorem d_M_tell_15 : decode b_M_tell 15 = .ok (.iinc 4 1, 3) := dd_M_tell 11 (15, .iinc 4 1, 3) rfl
theorem d_M_tell_18 : decode b_M_tell 18 = .ok (.goto (-13), 3) := dd_M_tell 12 (18, .goto (-13), 3) rfl
theorem d_M_tell_21 : decode b_M_tell 21 = .ok (.iconst 0, 1) := dd_M_tell 13 (21, .iconst 0, 1) rfl
theorem d_M_tell_22 : decode b_M_tell 22 = .ok (.istore 4, 2) := dd_M_tell 14 (22, .istore 4, 2) rfl
theorem d_M_tell_24 : decode b_M_tell 24 = .ok (.iload 4, 2) := dd_M_tell 15 (24, .iload 4, 2) rfl
theorem d_M_tell_26 : decode b_M_tell 26 = .ok (.iload_n 2, 1) := dd_M_tell 16 (26, .iload_n 2, 1) rfl
theorem d_M_tell_27 : decode b_M_tell 27 = .ok (.if_icmp .ge 86, 3) := dd_M_tell 17 (27, .if_icmp .ge 86, 3) rfl
theorem d_M_tell_30 : decode b_M_tell 30 = .ok (.aload_n 0, 1) := dd_M_tell 18 (30, .aload_n 0, 1) rfl
theorem d_M_tell_31 : decode b_M_tell 31 = .ok (.getfield 126, 3) := dd_M_tell 19 (31, .getfield 126, 3) rfl
theorem d_M_tell_34 : decode b_M_tell 34 = .ok (.bipush 8, 2) := dd_M_tell 20 (34, .bipush 8, 2) rfl
theorem d_M_tell_36 : decode b_M_tell 36 = .ok (.idiv, 1) := dd_M_tell 21 (36, .idiv, 1) rfl
theorem d_M_tell_37 : decode b_M_tell 37 = .ok (.istore 5, 2) := dd_M_tell 22 (37, .istore 5, 2) rfl
theorem d_M_tell_39 : decode b_M_tell 39 = .ok (.aload_n 0, 1) := dd_M_tell 23 (39, .aload_n 0, 1) rfl
theorem d_M_tell_40 : decode b_M_tell 40 = .ok (.getfield 19, 3) := dd_M_tell 24 (40, .getfield 19, 3) rfl
theorem d_M_tell_43 : decode b_M_tell 43 = .ok (.iload 5, 2) := dd_M_tell 25 (43, .iload 5, 2) rfl
theorem d_M_tell_45 : decode b_M_tell 45 = .ok (.aload_n 0, 1) := dd_M_tell 26 (45, .aload_n 0, 1) rfl
theorem d_M_tell_46 : decode b_M_tell 46 = .ok (.getfield 126, 3) := dd_M_tell 27 (46, .getfield 126, 3) rfl
theorem d_M_tell_49 : decode b_M_tell 49 = .ok (.bipush 8, 2) := dd_M_tell 28 (49, .bipush 8, 2) rfl
theorem d_M_tell_51 : decode b_M_tell 51 = .ok (.irem, 1) := dd_M_tell 29 (51, .irem, 1) rfl
theorem d_M_tell_52 : decode b_M_tell 52 = .ok (.ifCond .ne 7, 3) := dd_M_tell 30 (52, .ifCond .ne 7, 3) rfl
theorem d_M_tell_55 : decode b_M_tell 55 = .ok (.iconst 0, 1) := dd_M_tell 31 (55, .iconst 0, 1) rfl
theorem d_M_tell_56 : decode b_M_tell 56 = .ok (.goto 10, 3) := dd_M_tell 32 (56, .goto 10, 3) rfl
theorem d_M_tell_59 : decode b_M_tell 59 = .ok (.aload_n 0, 1) := dd_M_tell 33 (59, .aload_n 0, 1) rfl
theorem d_M_tell_60 : decode b_M_tell 60 = .ok (.getfield 19, 3) := dd_M_tell 34 (60, .getfield 19, 3) rfl
theorem d_M_tell_63 : decode b_M_tell 63 = .ok (.iload 5, 2) := dd_M_tell 35 (63, .iload 5, 2) rfl
theorem d_M_tell_65 : decode b_M_tell 65 = .ok (.iaload, 1) := dd_M_tell 36 (65, .iaload, 1) rfl
theorem d_M_tell_66 : decode b_M_tell 66 = .ok (.iastore, 1) := dd_M_tell 37 (66, .iastore, 1) rfl
theorem d_M_tell_67 : decode b_M_tell 67 = .ok (.aload_n 0, 1) := dd_M_tell 38 (67, .aload_n 0, 1) rfl
theorem d_M_tell_68 : decode b_M_tell 68 = .ok (.getfield 19, 3) := dd_M_tell 39 (68, .getfield 19, 3) rfl
theorem d_M_tell_71 : decode b_M_tell 71 = .ok (.iload 5, 2) := dd_M_tell 40 (71, .iload 5, 2) rfl
theorem d_M_tell_73 : decode b_M_tell 73 = .ok (.dup2, 1) := dd_M_tell 41 (73, .dup2, 1) rfl
theorem d_M_tell_74 : decode b_M_tell 74 = .ok (.iaload, 1) := dd_M_tell 42 (74, .iaload, 1) rfl
theorem d_M_tell_75 : decode b_M_tell 75 = .ok (.iload_n 1, 1) := dd_M_tell 43 (75, .iload_n 1, 1) rfl
theorem d_M_tell_76 : decode b_M_tell 76 = .ok (.iload_n 3, 1) := dd_M_tell 44 (76, .iload_n 3, 1) rfl
theorem d_M_tell_77 : decode b_M_tell 77 = .ok (.idiv, 1) := dd_M_tell 45 (77, .idiv, 1) rfl
theorem d_M_tell_78 : decode b_M_tell 78 = .ok (.iconst 2, 1) := dd_M_tell 46 (78, .iconst 2, 1) rfl
theorem d_M_tell_79 : decode b_M_tell 79 = .ok (.irem, 1) := dd_M_tell 47 (79, .irem, 1) rfl
theorem d_M_tell_80 : decode b_M_tell 80 = .ok (.bipush 7, 2) := dd_M_tell 48 (80, .bipush 7, 2) rfl
theorem d_M_tell_82 : decode b_M_tell 82 = .ok (.aload_n 0, 1) := dd_M_tell 49 (82, .aload_n 0, 1) rfl
theorem d_M_tell_83 : decode b_M_tell 83 = .ok (.getfield 126, 3) := dd_M_tell 50 (83, .getfield 126, 3) rfl
theorem d_M_tell_86 : decode b_M_tell 86 = .ok (.bipush 8, 2) := dd_M_tell 51 (86, .bipush 8, 2) rfl
theorem d_M_tell_88 : decode b_M_tell 88 = .ok (.irem, 1) := dd_M_tell 52 (88, .irem, 1) rfl
theorem d_M_tell_89 : decode b_M_tell 89 = .ok (.isub, 1) := dd_M_tell 53 (89, .isub, 1) rfl
theorem d_M_tell_90 : decode b_M_tell 90 = .ok (.ishl, 1) := dd_M_tell 54 (90, .ishl, 1) rfl
theorem d_M_tell_91 : decode b_M_tell 91 = .ok (.iadd, 1) := dd_M_tell 55 (91, .iadd, 1) rfl
theorem d_M_tell_92 : decode b_M_tell 92 = .ok (.iastore, 1) := dd_M_tell 56 (92, .iastore, 1) rfl
theorem d_M_tell_93 : decode b_M_tell 93 = .ok (.aload_n 0, 1) := dd_M_tell 57 (93, .aload_n 0, 1) rfl
theorem d_M_tell_94 : decode b_M_tell 94 = .ok (.dup, 1) := dd_M_tell 58 (94, .dup, 1) rfl
theorem d_M_tell_95 : decode b_M_tell 95 = .ok (.getfield 126, 3) := dd_M_tell 59 (95, .getfield 126, 3) rfl
theorem d_M_tell_98 : decode b_M_tell 98 = .ok (.iconst 1, 1) := dd_M_tell 60 (98, .iconst 1, 1) rfl
theorem d_M_tell_99 : decode b_M_tell 99 = .ok (.iadd, 1) := dd_M_tell 61 (99, .iadd, 1) rfl
theorem d_M_tell_100 : decode b_M_tell 100 = .ok (.putfield 126, 3) := dd_M_tell 62 (100, .putfield 126, 3) rfl
theorem d_M_tell_103 : decode b_M_tell 103 = .ok (.iload_n 3, 1) := dd_M_tell 63 (103, .iload_n 3, 1) rfl
theorem d_M_tell_104 : decode b_M_tell 104 = .ok (.iconst 2, 1) := dd_M_tell 64 (104, .iconst 2, 1) rfl
theorem d_M_tell_105 : decode b_M_tell 105 = .ok (.idiv, 1) := dd_M_tell 65 (105, .idiv, 1) rfl
theorem d_M_tell_106 : decode b_M_tell 106 = .ok (.istore_n 3, 1) := dd_M_tell 66 (106, .istore_n 3, 1) rfl
theorem d_M_tell_107 : decode b_M_tell 107 = .ok (.iinc 4 1, 3) := dd_M_tell 67 (107, .iinc 4 1, 3) rfl
theorem d_M_tell_110 : decode b_M_tell 110 = .ok (.goto (-86), 3) := dd_M_tell 68 (110, .goto (-86), 3) rfl
theorem d_M_tell_113 : decode b_M_tell 113 = .ok (.return_, 1) := dd_M_tell 69 (113, .return_, 1) rfl
def tb_M_bytes : List (Nat × Instr × Nat) := [(0, .aload_n 0, 1), (1, .getfield 126, 3), (4, .bipush 7, 2), (6, .iadd, 1), (7, .bipush 8, 2), (9, .idiv, 1), (10, .ireturn, 1)]
theorem dd_M_bytes : ∀ (i : Nat) (q : Nat × Instr × Nat), tb_M_bytes[i]? = some q → decode b_M_bytes q.1 = .ok (q.2.1, q.2.2) := z_tab (by decide +kernel)
theorem d_M_bytes_0 : decode b_M_bytes 0 = .ok (.aload_n 0, 1) := dd_M_bytes 0 (0, .aload_n 0, 1) rfl
theorem d_M_bytes_1 : decode b_M_bytes 1 = .ok (.getfield 126, 3) := dd_M_bytes 1 (1, .getfield 126, 3) rfl
theorem d_M_bytes_4 : decode b_M_bytes 4 = .ok (.bipush 7, 2) := dd_M_bytes 2 (4, .bipush 7, 2) rfl
theorem d_M_bytes_6 : decode b_M_bytes 6 = .ok (.iadd, 1) := dd_M_bytes 3 (6, .iadd, 1) rfl
theorem d_M_bytes_7 : decode b_M_bytes 7 = .ok (.bipush 8, 2) := dd_M_bytes 4 (7, .bipush 8, 2) rfl
theorem d_M_bytes_9 : decode b_M_bytes 9 = .ok (.idiv, 1) := dd_M_bytes 5 (9, .idiv, 1) rfl
theorem d_M_bytes_10 : decode b_M_bytes 10 = .ok (.ireturn, 1) := dd_M_bytes 6 (10, .ireturn, 1) rfl
def tb_M_encode : List (Nat × Instr × Nat) := [(0, .aload_n 0, 1), (1, .iload_n 1, 1), (2, .invokestatic 129, 3), (5, .ifCond .eq 21, 3), (8, .iconst 2, 1), (9, .iload_n 1, 1), (10, .imul, 1), (11, .aload_n 0, 1), (12, .getfield 46, 3), (15, .if_icmp .gt 11, 3), (18, .iload_n 2, 1), (19, .ifCond .lt 7, 3), (22, .iconst 0, 1), (23, .goto 4, 3), (26, .iconst 1, 1), (27, .putfield 50, 3), (30, .aload_n 0, 1), (31, .getfield 50, 3), (34, .ifCond .le 5, 3), (37, .iconst 0, 1), (38, .ireturn, 1), (39, .aload_n 0, 1), (40, .getfield 7, 3), (43, .aload_n 0, 1), (44, .getfield 46, 3), (47, .aload_n 0, 1), (48, .getfield 13, 3), (51, .invokestatic 133, 3), (54, .aload_n 0, 1), (55, .iconst 0, 1), (56, .putfield 108, 3), (59, .aload_n 0, 1), (60, .iconst 0, 1), (61, .putfield 126, 3), (64, .aload_n 0, 1), (65, .iconst 0, 1), (66, .putfield 120, 3), (69, .aload_n 0, 1), (70, .iconst 0, 1), (71, .putfield 114, 3), (74, .aload_n 0, 1), (75, .iload_n 1, 1), (76, .iconst 2, 1), (77, .if_icmp .ne 7, 3), (80, .iconst 1, 1), (81, .goto 23, 3), (84, .iload_n 1, 1), (85, .iconst 4, 1), (86, .if_icmp .ne 7, 3), (89, .iconst 2, 1), (90, .goto 14, 3), (93, .iload_n 1, 1), (94, .bipush 8, 2), (96, .if_icmp .ne 7, 3), (99, .iconst 3, 1), (100, .goto 4, 3), (103, .iconst 4, 1), (104, .iconst 3, 1), (105, .invokevirtual 137, 3), (108, .aload_n 0, 1), (109, .iconst 0, 1), (110, .iconst 0, 1), (111, .aload_n 0, 1), (112, .getfield 46, 3), (115, .invokevirtual 141, 3), (118, .aload_n 0, 1), (119, .getfield 114, 3), (122, .ifCond .le 199, 3), (125, .aload_n 0, 1), (126, .dup, 1), (127, .getfield 114, 3), (130, .iconst 1, 1), (131, .isub, 1), (132, .putfield 114, 3), (135, .aload_n 0, 1), (136, .getfield 25, 3), (139, .iconst 3, 1), (140, .aload_n 0, 1), (141, .getfield 114, 3), (144, .imul, 1), (145, .iaload, 1), (146, .istore_n 3, 1), (147, .aload_n 0, 1), (148, .getfield 25, 3), (151, .iconst 3, 1), (152, .aload_n 0, 1), (153, .getfield 114, 3), (156, .imul, 1), (157, .iconst 1, 1), (158, .iadd, 1), (159, .iaload, 1), (160, .istore 4, 2), (162, .aload_n 0, 1), (163, .getfield 25, 3), (166, .iconst 3, 1), (167, .aload_n 0, 1), (168, .getfield 114, 3), (171, .imul, 1), (172, .iconst 2, 1), (173, .iadd, 1), (174, .iaload, 1), (175, .istore 5, 2), (177, .aload_n 0, 1), (178, .iload_n 3, 1), (179, .iload 4, 2), (181, .iload 5, 2), (183, .invokevirtual 144, 3), (186, .iload 5, 2), (188, .iload_n 1, 1), (189, .if_icmp .le 17, 3), (192, .aload_n 0, 1), (193, .getfield 91, 3), (196, .iload_n 2, 1), (197, .i2l, 1), (198, .lcmp, 1), (199, .ifCond .le 7, 3), (202, .iconst 1, 1), (203, .goto 4, 3), (206, .iconst 0, 1), (207, .istore 6, 2), (209, .iload 5, 2), (211, .iload_n 1, 1), (212, .if_icmp .le 18, 3), (215, .aload_n 0, 1), (216, .iload 6, 2), (218, .ifCond .eq 7, 3), (221, .iconst 1, 1), (222, .goto 4, 3), (225, .iconst 0, 1), (226, .iconst 1, 1), (227, .invokevirtual 137, 3), (230, .iload 6, 2), (232, .ifCond .eq 15, 3), (235, .aload_n 0, 1), (236, .iload_n 3, 1), (237, .iload 4, 2), (239, .iload 5, 2), (241, .invokevirtual 141, 3), (244, .goto 74, 3), (247, .aload_n 0, 1), (248, .iload_n 3, 1), (249, .iload 4, 2), (251, .iload 5, 2), (253, .aload_n 0, 1), (254, .getfield 91, 3), (257, .l2i, 1), (258, .invokevirtual 147, 3), (261, .aload_n 0, 1), (262, .aload_n 0, 1), (263, .getfield 43, 3), (266, .iconst 0, 1), (267, .iaload, 1), (268, .aload_n 0, 1), (269, .iload 5, 2), (271, .invokevirtual 151, 3), (274, .invokevirtual 137, 3), (277, .aload_n 0, 1), (278, .aload_n 0, 1), (279, .getfield 43, 3), (282, .iconst 1, 1), (283, .iaload, 1), (284, .iconst 3, 1), (285, .invokevirtual 137, 3), (288, .aload_n 0, 1), (289, .aload_n 0, 1), (290, .getfield 43, 3), (293, .iconst 2, 1), (294, .iaload, 1), (295, .bipush 7, 2), (297, .iadd, 1), (298, .iconst 4, 1), (299, .invokevirtual 137, 3), (302, .aload_n 0, 1), (303, .aload_n 0, 1), (304, .getfield 43, 3), (307, .iconst 3, 1), (308, .iaload, 1), (309, .sipush 256, 3), (312, .iadd, 1), (313, .bipush 10, 2), (315, .invokevirtual 137, 3), (318, .goto (-200), 3), (321, .aload_n 0, 1), (322, .invokevirtual 154, 3), (325, .aload_n 0, 1), (326, .getfield 123, 3), (329, .ireturn, 1)]
theorem dd_M_encode : ∀ (i : Nat) (q : Nat × Instr × Nat), tb_M_encode[i]? = some q → decode b_M_encode q.1 = .ok (q.2.1, q.2.2) := z_tab (by decide +kernel)
theorem d_M_encode_0 : decode b_M_encode 0 = .ok (.aload_n 0, 1) := dd_M_encode 0 (0, .aload_n 0, 1) rfl
theorem d_M_encode_1 : decode b_M_encode 1 = .ok (.iload_n 1, 1) := dd_M_encode 1 (1, .iload_n 1, 1) rfl
theorem d_M_encode_2 : decode b_M_encode 2 = .ok (.invokestatic 129, 3) := dd_M_encode 2 (2, .invokestatic 129, 3) rfl
theorem d_M_encode_5 : decode b_M_encode 5 = .ok (.ifCond .eq 21, 3) := dd_M_encode 3 (5, .ifCond .eq 21, 3) rfl
theorem d_M_encode_8 : decode b_M_encode 8 = .ok (.iconst 2, 1) := dd_M_encode 4 (8, .iconst 2, 1) rfl
theorem d_M_encode_9 : decode b_M_encode 9 = .ok (.iload_n 1, 1) := dd_M_encode 5 (9, .iload_n 1, 1) rfl
theorem d_M_encode_10 : decode b_M_encode 10 = .ok (.imul, 1) := dd_M_encode 6 (10, .imul, 1) rfl
theorem d_M_encode_11 : decode b_M_encode 11 = .ok (.aload_n 0, 1) := dd_M_encode 7 (11, .aload_n 0, 1) rfl
theorem d_M_encode_12 : decode b_M_encode 12 = .ok (.getfield 46, 3) := dd_M_encode 8 (12, .getfield 46, 3) rfl
theorem d_M_encode_15 : decode b_M_encode 15 = .ok (.if_icmp .gt 11, 3) := dd_M_encode 9 (15, .if_icmp .gt 11, 3) rfl
theorem d_M_encode_18 : decode b_M_encode 18 = .ok (.iload_n 2, 1) := dd_M_encode 10 (18, .iload_n 2, 1) rfl
theorem d_M_encode_19 : decode b_M_encode 19 = .ok (.ifCond .lt 7, 3) := dd_M_encode 11 (19, .ifCond .lt 7, 3) rfl
theorem d_M_encode_22 : decode b_M_encode 22 = .ok (.iconst 0, 1) := dd_M_encode 12 (22, .iconst 0, 1) rfl
theorem d_M_encode_23 : decode b_M_encode 23 = .ok (.goto 4, 3) := dd_M_encode 13 (23, .goto 4, 3) rfl
theorem d_M_encode_26 : decode b_M_encode 26 = .ok (.iconst 1, 1) := dd_M_encode 14 (26, .iconst 1, 1) rfl
theorem d_M_encode_27 : decode b_M_encode 27 = .ok (.putfield 50, 3) := dd_M_encode 15 (27, .putfield 50, 3) rfl
theorem d_M_encode_30 : decode b_M_encode 30 = .ok (.aload_n 0, 1) := dd_M_encode 16 (30, .aload_n 0, 1) rfl
theorem d_M_encode_31 : decode b_M_encode 31 = .ok (.getfield 50, 3) := dd_M_encode 17 (31, .getfield 50, 3) rfl
theorem d_M_encode_34 : decode b_M_encode 34 = .ok (.ifCond .le 5, 3) := dd_M_encode 18 (34, .ifCond .le 5, 3) rfl
theorem d_M_encode_37 : decode b_M_encode 37 = .ok (.iconst 0, 1) := dd_M_encode 19 (37, .iconst 0, 1) rfl
theorem d_M_encode_38 : decode b_M_encode 38 = .ok (.ireturn, 1) := dd_M_encode 20 (38, .ireturn, 1) rfl
theorem d_M_encode_39 : decode b_M_encode 39 = .ok (.aload_n 0, 1) := dd_M_encode 21 (39, .aload_n 0, 1) rfl
theorem d_M_encode_40 : decode b_M_encode 40 = .ok (.getfield 7, 3) := dd_M_encode 22 (40, .getfield 7, 3) rfl
theorem d_M_encode_43 : decode b_M_encode 43 = .ok (.aload_n 0, 1) := dd_M_encode 23 (43, .aload_n 0, 1) rfl
theorem d_M_encode_44 : decode b_M_encode 44 = .ok (.getfield 46, 3) := dd_M_encode 24 (44, .getfield 46, 3) rfl
theorem d_M_encode_47 : decode b_M_encode 47 = .ok (.aload_n 0, 1) := dd_M_encode 25 (47, .aload_n 0, 1) rfl
theorem d_M_encode_48 : decode b_M_encode 48 = .ok (.getfield 13, 3) := dd_M_encode 26 (48, .getfield 13, 3) rfl
theorem d_M_encode_51 : decode b_M_encode 51 = .ok (.invokestatic 133, 3) := dd_M_encode 27 (51, .invokestatic 133, 3) rfl
theorem d_M_encode_54 : decode b_M_encode 54 = .ok (.aload_n 0, 1) := dd_M_encode 28 (54, .aload_n 0, 1) rfl
theorem d_M_encode_55 : decode b_M_encode 55 = .ok (.iconst 0, 1) := dd_M_encode 29 (55, .iconst 0, 1) rfl
theorem d_M_encode_56 : decode b_M_encode 56 = .ok (.putfield 108, 3) := dd_M_encode 30 (56, .putfield 108, 3) rfl
theorem d_M_encode_59 : decode b_M_encode 59 = .ok (.aload_n 0, 1) := dd_M_encode 31 (59, .aload_n 0, 1) rfl
theorem d_M_encode_60 : decode b_M_encode 60 = .ok (.iconst 0, 1) := dd_M_encode 32 (60, .iconst 0, 1) rfl
theorem d_M_encode_61 : decode b_M_encode 61 = .ok (.putfield 126, 3) := dd_M_encode 33 (61, .putfield 126, 3) rfl
theorem d_M_encode_64 : decode b_M_encode 64 = .ok (.aload_n 0, 1) := dd_M_encode 34 (64, .aload_n 0, 1) rfl
theorem d_M_encode_65 : decode b_M_encode 65 = .ok (.iconst 0, 1) := dd_M_encode 35 (65, .iconst 0, 1) rfl
theorem d_M_encode_66 : decode b_M_encode 66 = .ok (.putfield 120, 3) := dd_M_encode 36 (66, .putfield 120, 3) rfl
theorem d_M_encode_69 : decode b_M_encode 69 = .ok (.aload_n 0, 1) := dd_M_encode 37 (69, .aload_n 0, 1) rfl
theorem d_M_encode_70 : decode b_M_encode 70 = .ok (.iconst 0, 1) := dd_M_encode 38 (70, .iconst 0, 1) rfl
theorem d_M_encode_71 : decode b_M_encode 71 = .ok (.putfield 114, 3) := dd_M_encode 39 (71, .putfield 114, 3) rfl
theorem d_M_encode_74 : decode b_M_encode 74 = .ok (.aload_n 0, 1) := dd_M_encode 40 (74, .aload_n 0, 1) rfl
theorem d_M_encode_75 : decode b_M_encode 75 = .ok (.iload_n 1, 1) := dd_M_encode 41 (75, .iload_n 1, 1) rfl
theorem d_M_encode_76 : decode b_M_encode 76 = .ok (.iconst 2, 1) := dd_M_encode 42 (76, .iconst 2, 1) rfl
theorem d_M_encode_77 : decode b_M_encode 77 = .ok (.if_icmp .ne 7, 3) := dd_M_encode 43 (77, .if_icmp .ne 7, 3) rfl
theorem d_M_encode_80 : decode b_M_encode 80 = .ok (.iconst 1, 1) := dd_M_encode 44 (80, .iconst 1, 1) rfl
theorem d_M_encode_81 : decode b_M_encode 81 = .ok (.goto 23, 3) := dd_M_encode 45 (81, .goto 23, 3) rfl
theorem d_M_encode_84 : decode b_M_encode 84 = .ok (.iload_n 1, 1) := dd_M_encode 46 (84, .iload_n 1, 1) rfl
theorem d_M_encode_85 : decode b_M_encode 85 = .ok (.iconst 4, 1) := dd_M_encode 47 (85, .iconst 4, 1) rfl
theorem d_M_encode_86 : decode b_M_encode 86 = .ok (.if_icmp .ne 7, 3) := dd_M_encode 48 (86, .if_icmp .ne 7, 3) rfl
theorem d_M_encode_89 : decode b_M_encode 89 = .ok (.iconst 2, 1) := dd_M_encode 49 (89, .iconst 2, 1) rfl
theorem d_M_encode_90 : decode b_M_encode 90 = .ok (.goto 14, 3) := dd_M_encode 50 (90, .goto 14, 3) rfl
theorem d_M_encode_93 : decode b_M_encode 93 = .ok (.iload_n 1, 1) := dd_M_encode 51 (93, .iload_n 1, 1) rfl
theorem d_M_encode_94 : decode b_M_encode 94 = .ok (.bipush 8, 2) := dd_M_encode 52 (94, .bipush 8, 2) rfl
theorem d_M_encode_96 : decode b_M_encode 96 = .ok (.if_icmp .ne 7, 3) := dd_M_encode 53 (96, .if_icmp .ne 7, 3) rfl
theorem d_M_encode_99 : decode b_M_encode 99 = .ok (.iconst 3, 1) := dd_M_encode 54 (99, .iconst 3, 1) rfl
theorem d_M_encode_100 : decode b_M_encode 100 = .ok (.goto 4, 3) := dd_M_encode 55 (100, .goto 4, 3) rfl
theorem d_M_encode_103 : decode b_M_encode 103 = .ok (.iconst 4, 1) := dd_M_encode 56 (103, .iconst 4, 1) rfl
theorem d_M_encode_104 : decode b_M_encode 104 = .ok (.iconst 3, 1) := dd_M_encode 57 (104, .iconst 3, 1) rfl
theorem d_M_encode_105 : decode b_M_encode 105 = .ok (.invokevirtual 137, 3) := dd_M_encode 58 (105, .invokevirtual 137, 3) rfl
theorem d_M_encode_108 : decode b_M_encode 108 = .ok (.aload_n 0, 1) := dd_M_encode 59 (108, .aload_n 0, 1) rfl
theorem d_M_encode_109 : decode b_M_encode 109 = .ok (.iconst 0, 1) := dd_M_encode 60 (109, .iconst 0, 1) rfl
theorem d_M_encode_110 : decode b_M_encode 110 = .ok (.iconst 0, 1) := dd_M_encode 61 (110, .iconst 0, 1) rfl
theorem d_M_encode_111 : decode b_M_encode 111 = .ok (.aload_n 0, 1) := dd_M_encode 62 (111, .aload_n 0, 1) rfl
theorem d_M_encode_112 : decode b_M_encode 112 = .ok (.getfield 46, 3) := dd_M_encode 63 (112, .getfield 46, 3) rfl
theorem d_M_encode_115 : decode b_M_encode 115 = .ok (.invokevirtual 141, 3) := dd_M_encode 64 (115, .invokevirtual 141, 3) rfl
theorem d_M_encode_118 : decode b_M_encode 118 = .ok (.aload_n 0, 1) := dd_M_encode 65 (118, .aload_n 0, 1) rfl
theorem d_M_encode_119 : decode b_M_encode 119 = .ok (.getfield 114, 3) := dd_M_encode 66 (119, .getfield 114, 3) rfl
theorem d_M_encode_122 : decode b_M_encode 122 = .ok (.ifCond .le 199, 3) := dd_M_encode 67 (122, .ifCond .le 199, 3) rfl
theorem d_M_encode_125 : decode b_M_encode 125 = .ok (.aload_n 0, 1) := dd_M_encode 68 (125, .aload_n 0, 1) rfl
theorem d_M_encode_126 : decode b_M_encode 126 = .ok (.dup, 1) := dd_M_encode 69 (126, .dup, 1) rfl
theorem d_M_encode_127 : decode b_M_encode 127 = .ok (.getfield 114, 3) := dd_M_encode 70 (127, .getfield 114, 3) rfl
theorem d_M_encode_130 : decode b_M_encode 130 = .ok (.iconst 1, 1) := dd_M_encode 71 (130, .iconst 1, 1) rfl
theorem d_M_encode_131 : decode b_M_encode 131 = .ok (.isub, 1) := dd_M_encode 72 (131, .isub, 1) rfl
theorem d_M_encode_132 : decode b_M_encode 132 = .ok (.putfield 114, 3) := dd_M_encode 73 (132, .putfield 114, 3) rfl
theorem d_M_encode_135 : decode b_M_encode 135 = .ok (.aload_n 0, 1) := dd_M_encode 74 (135, .aload_n 0, 1) rfl
theorem d_M_encode_136 : decode b_M_encode 136 = .ok (.getfield 25, 3) := dd_M_encode 75 (136, .getfield 25, 3) rfl
theorem d_M_encode_139 : decode b_M_encode 139 = .ok (.iconst 3, 1) := dd_M_encode 76 (139, .iconst 3, 1) rfl
theorem d_M_encode_140 : decode b_M_encode 140 = .ok (.aload_n 0, 1) := dd_M_encode 77 (140, .aload_n 0, 1) rfl
theorem d_M_encode_141 : decode b_M_encode 141 = .ok (.getfield 114, 3) := dd_M_encode 78 (141, .getfield 114, 3) rfl
theorem d_M_encode_144 : decode b_M_encode 144 = .ok (.imul, 1) := dd_M_encode 79 (144, .imul, 1) rfl
theorem d_M_encode_145 : decode b_M_encode 145 = .ok (.iaload, 1) := dd_M_encode 80 (145, .iaload, 1) rfl
theorem d_M_encode_146 : decode b_M_encode 146 = .ok (.istore_n 3, 1) := dd_M_encode 81 (146, .istore_n 3, 1) rfl
theorem d_M_encode_147 : decode b_M_encode 147 = .ok (.aload_n 0, 1) := dd_M_encode 82 (147, .aload_n 0, 1) rfl
theorem d_M_encode_148 : decode b_M_encode 148 = .ok (.getfield 25, 3) := dd_M_encode 83 (148, .getfield 25, 3) rfl
theorem d_M_encode_151 : decode b_M_encode 151 = .ok (.iconst 3, 1) := dd_M_encode 84 (151, .iconst 3, 1) rfl
theorem d_M_encode_152 : decode b_M_encode 152 = .ok (.aload_n 0, 1) := dd_M_encode 85 (152, .aload_n 0, 1) rfl
theorem d_M_encode_153 : decode b_M_encode 153 = .ok (.getfield 114, 3) := dd_M_encode 86 (153, .getfield 114, 3) rfl
theorem d_M_encode_156 : decode b_M_encode 156 = .ok (.imul, 1) := dd_M_encode 87 (156, .imul, 1) rfl
theorem d_M_encode_157 : decode b_M_encode 157 = .ok (.iconst 1, 1) := dd_M_encode 88 (157, .iconst 1, 1) rfl
theorem d_M_encode_158 : decode b_M_encode 158 = .ok (.iadd, 1) := dd_M_encode 89 (158, .iadd, 1) rfl
theorem d_M_encode_159 : decode b_M_encode 159 = .ok (.iaload, 1) := dd_M_encode 90 (159, .iaload, 1) rfl
theorem d_M_encode_160 : decode b_M_encode 160 = .ok (.istore 4, 2) := dd_M_encode 91 (160, .istore 4, 2) rfl
theorem d_M_encode_162 : decode b_M_encode 162 = .ok (.aload_n 0, 1) := dd_M_encode 92 (162, .aload_n 0, 1) rfl
theorem d_M_encode_163 : decode b_M_encode 163 = .ok (.getfield 25, 3) := dd_M_encode 93 (163, .getfield 25, 3) rfl
theorem d_M_encode_166 : decode b_M_encode 166 = .ok (.iconst 3, 1) := dd_M_encode 94 (166, .iconst 3, 1) rfl
theorem d_M_encode_167 : decode b_M_encode 167 = .ok (.aload_n 0, 1) := dd_M_encode 95 (167, .aload_n 0, 1) rfl
theorem d_M_encode_168 : decode b_M_encode 168 = .ok (.getfield 114, 3) := dd_M_encode 96 (168, .getfield 114, 3) rfl
theorem d_M_encode_171 : decode b_M_encode 171 = .ok (.imul, 1) := dd_M_encode 97 (171, .imul, 1) rfl
theorem d_M_encode_172 : decode b_M_encode 172 = .ok (.iconst 2, 1) := dd_M_encode 98 (172, .iconst 2, 1) rfl
theorem d_M_encode_173 : decode b_M_encode 173 = .ok (.iadd, 1) := dd_M_encode 99 (173, .iadd, 1) rfl
theorem d_M_encode_174 : decode b_M_encode 174 = .ok (.iaload, 1) := dd_M_encode 100 (174, .iaload, 1) rfl
theorem d_M_encode_175 : decode b_M_encode 175 = .ok (.istore 5, 2) := dd_M_encode 101 (175, .istore 5, 2) rfl
theorem d_M_encode_177 : decode b_M_encode 177 = .ok (.aload_n 0, 1) := dd_M_encode 102 (177, .aload_n 0, 1) rfl
theorem d_M_encode_178 : decode b_M_encode 178 = .ok (.iload_n 3, 1) := dd_M_encode 103 (178, .iload_n 3, 1) rfl
theorem d_M_encode_179 : decode b_M_encode 179 = .ok (.iload 4, 2) := dd_M_encode 104 (179, .iload 4, 2) rfl
theorem d_M_encode_181 : decode b_M_encode 181 = .ok (.iload 5, 2) := dd_M_encode 105 (181, .iload 5, 2) rfl
theorem d_M_encode_183 : decode b_M_encode 183 = .ok (.invokevirtual 144, 3) := dd_M_encode 106 (183, .invokevirtual 144, 3) rfl
theorem d_M_encode_186 : decode b_M_encode 186 = .ok (.iload 5, 2) := dd_M_encode 107 (186, .iload 5, 2) rfl
theorem d_M_encode_188 : decode b_M_encode 188 = .ok (.iload_n 1, 1) := dd_M_encode 108 (188, .iload_n 1, 1) rfl
theorem d_M_encode_189 : decode b_M_encode 189 = .ok (.if_icmp .le 17, 3) := dd_M_encode 109 (189, .if_icmp .le 17, 3) rfl
theorem d_M_encode_192 : decode b_M_encode 192 = .ok (.aload_n 0, 1) := dd_M_encode 110 (192, .aload_n 0, 1) rfl
theorem d_M_encode_193 : decode b_M_encode 193 = .ok (.getfield 91, 3) := dd_M_encode 111 (193, .getfield 91, 3) rfl
theorem d_M_encode_196 : decode b_M_encode 196 = .ok (.iload_n 2, 1) := dd_M_encode 112 (196, .iload_n 2, 1) rfl
theorem d_M_encode_197 : decode b_M_encode 197 = .ok (.i2l, 1) := dd_M_encode 113 (197, .i2l, 1) rfl
theorem d_M_encode_198 : decode b_M_encode 198 = .ok (.lcmp, 1) := dd_M_encode 114 (198, .lcmp, 1) rfl
theorem d_M_encode_199 : decode b_M_encode 199 = .ok (.ifCond .le 7, 3) := dd_M_encode 115 (199, .ifCond .le 7, 3) rfl
theorem d_M_encode_202 : decode b_M_encode 202 = .ok (.iconst 1, 1) := dd_M_encode 116 (202, .iconst 1, 1) rfl
theorem d_M_encode_203 : decode b_M_encode 203 = .ok (.goto 4, 3) := dd_M_encode 117 (203, .goto 4, 3) rfl
theorem d_M_encode_206 : decode b_M_encode 206 = .ok (.iconst 0, 1) := dd_M_encode 118 (206, .iconst 0, 1) rfl
theorem d_M_encode_207 : decode b_M_encode 207 = .ok (.istore 6, 2) := dd_M_encode 119 (207, .istore 6, 2) rfl
theorem d_M_encode_209 : decode b_M_encode 209 = .ok (.iload 5, 2) := dd_M_encode 120 (209, .iload 5, 2) rfl
theorem d_M_encode_211 : decode b_M_encode 211 = .ok (.iload_n 1, 1) := dd_M_encode 121 (211, .iload_n 1, 1) rfl
theorem d_M_encode_212 : decode b_M_encode 212 = .ok (.if_icmp .le 18, 3) := dd_M_encode 122 (212, .if_icmp .le 18, 3) rfl
theorem d_M_encode_215 : decode b_M_encode 215 = .ok (.aload_n 0, 1) := dd_M_encode 123 (215, .aload_n 0, 1) rfl
theorem d_M_encode_216 : decode b_M_encode 216 = .ok (.iload 6, 2) := dd_M_encode 124 (216, .iload 6, 2) rfl
theorem d_M_encode_218 : decode b_M_encode 218 = .ok (.ifCond .eq 7, 3) := dd_M_encode 125 (218, .ifCond .eq 7, 3) rfl
theorem d_M_encode_221 : decode b_M_encode 221 = .ok (.iconst 1, 1) := dd_M_encode 126 (221, .iconst 1, 1) rfl
theorem d_M_encode_222 : decode b_M_encode 222 = .ok (.goto 4, 3) := dd_M_encode 127 (222, .goto 4, 3) rfl
theorem d_M_encode_225 : decode b_M_encode 225 = .ok (.iconst 0, 1) := dd_M_encode 128 (225, .iconst 0, 1) rfl
theorem d_M_encode_226 : decode b_M_encode 226 = .ok (.iconst 1, 1) := dd_M_encode 129 (226, .iconst 1, 1) rfl
theorem d_M_encode_227 : decode b_M_encode 227 = .ok (.invokevirtual 137, 3) := dd_M_encode 130 (227, .invokevirtual 137, 3) rfl
theorem d_M_encode_230 : decode b_M_encode 230 = .ok (.iload 6, 2) := dd_M_encode 131 (230, .iload 6, 2) rfl
theorem d_M_encode_232 : decode b_M_encode 232 = .ok (.ifCond .eq 15, 3) := dd_M_encode 132 (232, .ifCond .eq 15, 3) rfl
theorem d_M_encode_235 : decode b_M_encode 235 = .ok (.aload_n 0, 1) := dd_M_encode 133 (235, .aload_n 0, 1) rfl
theorem d_M_encode_236 : decode b_M_encode 236 = .ok (.iload_n 3, 1) := dd_M_encode 134 (236, .iload_n 3, 1) rfl
theorem d_M_encode_237 : decode b_M_encode 237 = .ok (.iload 4, 2) := dd_M_encode 135 (237, .iload 4, 2) rfl
theorem d_M_encode_239 : decode b_M_encode 239 = .ok (.iload 5, 2) := dd_M_encode 136 (239, .iload 5, 2) rfl
theorem d_M_encode_241 : decode b_M_encode 241 = .ok (.invokevirtual 141, 3) := dd_M_encode 137 (241, .invokevirtual 141, 3) rfl
theorem d_M_encode_244 : decode b_M_encode 244 = .ok (.goto 74, 3) := dd_M_encode 138 (244, .goto 74, 3) rfl
theorem d_M_encode_247 : decode b_M_encode 247 = .ok (.aload_n 0, 1) := dd_M_encode 139 (247, .aload_n 0, 1) rfl
theorem d_M_encode_248 : decode b_M_encode 248 = .ok (.iload_n 3, 1) := dd_M_encode 140 (248, .iload_n 3, 1) rfl
theorem d_M_encode_249 : decode b_M_encode 249 = .ok (.iload 4, 2) := dd_M_encode 141 (249, .iload 4, 2) rfl
theorem d_M_encode_251 : decode b_M_encode 251 = .ok (.iload 5, 2) := dd_M_encode 142 (251, .iload 5, 2) rfl
theorem d_M_encode_253 : decode b_M_encode 253 = .ok (.aload_n 0, 1) := dd_M_encode 143 (253, .aload_n 0, 1) rfl
theorem d_M_encode_254 : decode b_M_encode 254 = .ok (.getfield 91, 3) := dd_M_encode 144 (254, .getfield 91, 3) rfl
theorem d_M_encode_257 : decode b_M_encode 257 = .ok (.l2i, 1) := dd_M_encode 145 (257, .l2i, 1) rfl
theorem d_M_encode_258 : decode b_M_encode 258 = .ok (.invokevirtual 147, 3) := dd_M_encode 146 (258, .invokevirtual 147, 3) rfl
theorem d_M_encode_261 : decode b_M_encode 261 = .ok (.aload_n 0, 1) := dd_M_encode 147 (261, .aload_n 0, 1) rfl
theorem d_M_encode_262 : decode b_M_encode 262 = .ok (.aload_n 0, 1) := dd_M_encode 148 (262, .aload_n 0, 1) rfl
theorem d_M_encode_263 : decode b_M_encode 263 = .ok (.getfield 43, 3) := dd_M_encode 149 (263, .getfield 43, 3) rfl
theorem d_M_encode_266 : decode b_M_encode 266 = .ok (.iconst 0, 1) := dd_M_encode 150 (266, .iconst 0, 1) rfl
theorem d_M_encode_267 : decode b_M_encode 267 = .ok (.iaload, 1) := dd_M_encode 151 (267, .iaload, 1) rfl
theorem d_M_encode_268 : decode b_M_encode 268 = .ok (.aload_n 0, 1) := dd_M_encode 152 (268, .aload_n 0, 1) rfl
theorem d_M_encode_269 : decode b_M_encode 269 = .ok (.iload 5, 2) := dd_M_encode 153 (269, .iload 5, 2) rfl
theorem d_M_encode_271 : decode b_M_encode 271 = .ok (.invokevirtual 151, 3) := dd_M_encode 154 (271, .invokevirtual 151, 3) rfl
theorem d_M_encode_274 : decode b_M_encode 274 = .ok (.invokevirtual 137, 3) := dd_M_encode 155 (274, .invokevirtual 137, 3) rfl
theorem d_M_encode_277 : decode b_M_encode 277 = .ok (.aload_n 0, 1) := dd_M_encode 156 (277, .aload_n 0, 1) rfl
theorem d_M_encode_278 : decode b_M_encode 278 = .ok (.aload_n 0, 1) := dd_M_encode 157 (278, .aload_n 0, 1) rfl
theorem d_M_encode_279 : decode b_M_encode 279 = .ok (.getfield 43, 3) := dd_M_encode 158 (279, .getfield 43, 3) rfl
theorem d_M_encode_282 : decode b_M_encode 282 = .ok (.iconst 1, 1) := dd_M_encode 159 (282, .iconst 1, 1) rfl
theorem d_M_encode_283 : decode b_M_encode 283 = .ok (.iaload, 1) := dd_M_encode 160 (283, .iaload, 1) rfl
theorem d_M_encode_284 : decode b_M_encode 284 = .ok (.iconst 3, 1) := dd_M_encode 161 (284, .iconst 3, 1) rfl
theorem d_M_encode_285 : decode b_M_encode 285 = .ok (.invokevirtual 137, 3) := dd_M_encode 162 (285, .invokevirtual 137, 3) rfl
theorem d_M_encode_288 : decode b_M_encode 288 = .ok (.aload_n 0, 1) := dd_M_encode 163 (288, .aload_n 0, 1) rfl
theorem d_M_encode_289 : decode b_M_encode 289 = .ok (.aload_n 0, 1) := dd_M_encode 164 (289, .aload_n 0, 1) rfl
theorem d_M_encode_290 : decode b_M_encode 290 = .ok (.getfield 43, 3) := dd_M_encode 165 (290, .getfield 43, 3) rfl
theorem d_M_encode_293 : decode b_M_encode 293 = .ok (.iconst 2, 1) := dd_M_encode 166 (293, .iconst 2, 1) rfl
theorem d_M_encode_294 : decode b_M_encode 294 = .ok (.iaload, 1) := dd_M_encode 167 (294, .iaload, 1) rfl
theorem d_M_encode_295 : decode b_M_encode 295 = .ok (.bipush 7, 2) := dd_M_encode 168 (295, .bipush 7, 2) rfl
theorem d_M_encode_297 : decode b_M_encode 297 = .ok (.iadd, 1) := dd_M_encode 169 (297, .iadd, 1) rfl
theorem d_M_encode_298 : decode b_M_encode 298 = .ok (.iconst 4, 1) := dd_M_encode 170 (298, .iconst 4, 1) rfl
theorem d_M_encode_299 : decode b_M_encode 299 = .ok (.invokevirtual 137, 3) := dd_M_encode 171 (299, .invokevirtual 137, 3) rfl
theorem d_M_encode_302 : decode b_M_encode 302 = .ok (.aload_n 0, 1) := dd_M_encode 172 (302, .aload_n 0, 1) rfl
theorem d_M_encode_303 : decode b_M_encode 303 = .ok (.aload_n 0, 1) := dd_M_encode 173 (303, .aload_n 0, 1) rfl
theorem d_M_encode_304 : decode b_M_encode 304 = .ok (.getfield 43, 3) := dd_M_encode 174 (304, .getfield 43, 3) rfl
theorem d_M_encode_307 : decode b_M_encode 307 = .ok (.iconst 3, 1) := dd_M_encode 175 (307, .iconst 3, 1) rfl
theorem d_M_encode_308 : decode b_M_encode 308 = .ok (.iaload, 1) := dd_M_encode 176 (308, .iaload, 1) rfl
theorem d_M_encode_309 : decode b_M_encode 309 = .ok (.sipush 256, 3) := dd_M_encode 177 (309, .sipush 256, 3) rfl
theorem d_M_encode_312 : decode b_M_encode 312 = .ok (.iadd, 1) := dd_M_encode 178 (312, .iadd, 1) rfl
theorem d_M_encode_313 : decode b_M_encode 313 = .ok (.bipush 10, 2) := dd_M_encode 179 (313, .bipush 10, 2) rfl
theorem d_M_encode_315 : decode b_M_encode 315 = .ok (.invokevirtual 137, 3) := dd_M_encode 180 (315, .invokevirtual 137, 3) rfl
theorem d_M_encode_318 : decode b_M_encode 318 = .ok (.goto (-200), 3) := dd_M_encode 181 (318, .goto (-200), 3) rfl
theorem d_M_encode_321 : decode b_M_encode 321 = .ok (.aload_n 0, 1) := dd_M_encode 182 (321, .aload_n 0, 1) rfl
theorem d_M_encode_322 : decode b_M_encode 322 = .ok (.invokevirtual 154, 3) := dd_M_encode 183 (322, .invokevirtual 154, 3) rfl
theorem d_M_encode_325 : decode b_M_encode 325 = .ok (.aload_n 0, 1) := dd_M_encode 184 (325, .aload_n 0, 1) rfl
theorem d_M_encode_326 : decode b_M_encode 326 = .ok (.getfield 123, 3) := dd_M_encode 185 (326, .getfield 123, 3) rfl
theorem d_M_encode_329 : decode b_M_encode 329 = .ok (.ireturn, 1) := dd_M_encode 186 (329, .ireturn, 1) rfl
def tb_M_block : List (Nat × Instr × Nat) := [(0, .aload_n 0, 1), (1, .iload_n 1, 1), (2, .i2l, 1), (3, .lconst 0, 1), (4, .aload_n 0, 1), (5, .getfield 123, 3), (8, .iconst 1, 1), (9, .isub, 1), (10, .i2l, 1), (11, .invokestatic 55, 3), (14, .ifCond .ne 7, 3), (17, .iconst 1, 1), (18, .goto 20, 3), (21, .iload_n 2, 1), (22, .i2l, 1), (23, .lconst 0, 1), (24, .ldc2_w 157, 3), (27, .invokestatic 55, 3), (30, .ifCond .ne 7, 3), (33, .iconst 2, 1), (34, .goto 4, 3), (37, .iconst 0, 1), (38, .putfield 50, 3), (41, .aload_n 0, 1), (42, .getfield 50, 3), (45, .ifCond .le 7, 3), (48, .iconst 0, 1), (49, .goto 14, 3), (52, .aload_n 0, 1), (53, .getfield 16, 3), (56, .bipush 8, 2), (58, .iload_n 1, 1), (59, .imul, 1), (60, .iload_n 2, 1), (61, .iadd, 1), (62, .iaload, 1), (63, .ireturn, 1)]
theorem dd_M_block : ∀ (i : Nat) (q : Nat × Instr × Nat), tb_M_block[i]? = some q → decode b_M_block q.1 = .ok (q.2.1, q.2.2) := z_tab (by decide +kernel)
theorem d_M_block_0 : decode b_M_block 0 = .ok (.aload_n 0, 1) := dd_M_block 0 (0, .aload_n 0, 1) rfl
theorem d_M_block_1 : decode b_M_block 1 = .ok (.iload_n 1, 1) := dd_M_block 1 (1, .iload_n 1, 1) rfl
theorem d_M_block_2 : decode b_M_block 2 = .ok (.i2l, 1) := dd_M_block 2 (2, .i2l, 1) rfl
theorem d_M_block_3 : decode b_M_block 3 = .ok (.lconst 0, 1) := dd_M_block 3 (3, .lconst 0, 1) rfl
theorem d_M_block_4 : decode b_M_block 4 = .ok (.aload_n 0, 1) := dd_M_block 4 (4, .aload_n 0, 1) rfl
theorem d_M_block_5 : decode b_M_block 5 = .ok (.getfield 123, 3) := dd_M_block 5 (5, .getfield 123, 3) rfl
theorem d_M_block_8 : decode b_M_block 8 = .ok (.iconst 1, 1) := dd_M_block 6 (8, .iconst 1, 1) rfl
theorem d_M_block_9 : decode b_M_block 9 = .ok (.isub, 1) := dd_M_block 7 (9, .isub, 1) rfl
theorem d_M_block_10 : decode b_M_block 10 = .ok (.i2l, 1) := dd_M_block 8 (10, .i2l, 1) rfl
theorem d_M_block_11 : decode b_M_block 11 = .ok (.invokestatic 55, 3) := dd_M_block 9 (11, .invokestatic 55, 3) rfl
theorem d_M_block_14 : decode b_M_block 14 = .ok (.ifCond .ne 7, 3) := dd_M_block 10 (14, .ifCond .ne 7, 3) rfl
theorem d_M_block_17 : decode b_M_block 17 = .ok (.iconst 1, 1) := dd_M_block 11 (17, .iconst 1, 1) rfl
theorem d_M_block_18 : decode b_M_block 18 = .ok (.goto 20, 3) := dd_M_block 12 (18, .goto 20, 3) rfl
theorem d_M_block_21 : decode b_M_block 21 = .ok (.iload_n 2, 1) := dd_M_block 13 (21, .iload_n 2, 1) rfl
theorem d_M_block_22 : decode b_M_block 22 = .ok (.i2l, 1) := dd_M_block 14 (22, .i2l, 1) rfl
theorem d_M_block_23 : decode b_M_block 23 = .ok (.lconst 0, 1) := dd_M_block 15 (23, .lconst 0, 1) rfl
theorem d_M_block_24 : decode b_M_block 24 = .ok (.ldc2_w 157, 3) := dd_M_block 16 (24, .ldc2_w 157, 3) rfl
theorem d_M_block_27 : decode b_M_block 27 = .ok (.invokestatic 55, 3) := dd_M_block 17 (27, .invokestatic 55, 3) rfl
theorem d_M_block_30 : decode b_M_block 30 = .ok (.ifCond .ne 7, 3) := dd_M_block 18 (30, .ifCond .ne 7, 3) rfl
theorem d_M_block_33 : decode b_M_block 33 = .ok (.iconst 2, 1) := dd_M_block 19 (33, .iconst 2, 1) rfl
theorem d_M_block_34 : decode b_M_block 34 = .ok (.goto 4, 3) := dd_M_block 20 (34, .goto 4, 3) rfl
theorem d_M_block_37 : decode b_M_block 37 = .ok (.iconst 0, 1) := dd_M_block 21 (37, .iconst 0, 1) rfl
theorem d_M_block_38 : decode b_M_block 38 = .ok (.putfield 50, 3) := dd_M_block 22 (38, .putfield 50, 3) rfl
theorem d_M_block_41 : decode b_M_block 41 = .ok (.aload_n 0, 1) := dd_M_block 23 (41, .aload_n 0, 1) rfl
theorem d_M_block_42 : decode b_M_block 42 = .ok (.getfield 50, 3) := dd_M_block 24 (42, .getfield 50, 3) rfl
theorem d_M_block_45 : decode b_M_block 45 = .ok (.ifCond .le 7, 3) := dd_M_block 25 (45, .ifCond .le 7, 3) rfl
theorem d_M_block_48 : decode b_M_block 48 = .ok (.iconst 0, 1) := dd_M_block 26 (48, .iconst 0, 1) rfl
theorem d_M_block_49 : decode b_M_block 49 = .ok (.goto 14, 3) := dd_M_block 27 (49, .goto 14, 3) rfl
theorem d_M_block_52 : decode b_M_block 52 = .ok (.aload_n 0, 1) := dd_M_block 28 (52, .aload_n 0, 1) rfl
theorem d_M_block_53 : decode b_M_block 53 = .ok (.getfield 16, 3) := dd_M_block 29 (53, .getfield 16, 3) rfl
theorem d_M_block_56 : decode b_M_block 56 = .ok (.bipush 8, 2) := dd_M_block 30 (56, .bipush 8, 2) rfl
theorem d_M_block_58 : decode b_M_block 58 = .ok (.iload_n 1, 1) := dd_M_block 31 (58, .iload_n 1, 1) rfl
theorem d_M_block_59 : decode b_M_block 59 = .ok (.imul, 1) := dd_M_block 32 (59, .imul, 1) rfl
theorem d_M_block_60 : decode b_M_block 60 = .ok (.iload_n 2, 1) := dd_M_block 33 (60, .iload_n 2, 1) rfl
theorem d_M_block_61 : decode b_M_block 61 = .ok (.iadd, 1) := dd_M_block 34 (61, .iadd, 1) rfl
theorem d_M_block_62 : decode b_M_block 62 = .ok (.iaload, 1) := dd_M_block 35 (62, .iaload, 1) rfl
theorem d_M_block_63 : decode b_M_block 63 = .ok (.ireturn, 1) := dd_M_block 36 (63, .ireturn, 1) rfl
def tb_M_byteAt : List (Nat × Instr × Nat) := [(0, .aload_n 0, 1), (1, .iload_n 1, 1), (2, .i2l, 1), (3, .lconst 0, 1), (4, .aload_n 0, 1), (5, .invokevirtual 159, 3), (8, .iconst 1, 1), (9, .isub, 1), (10, .i2l, 1), (11, .invokestatic 55, 3), (14, .ifCond .eq 7, 3), (17, .iconst 0, 1), (18, .goto 4, 3), (21, .iconst 1, 1), (22, .putfield 50, 3), (25, .aload_n 0, 1), (26, .getfield 50, 3), (29, .ifCond .le 7, 3), (32, .iconst 0, 1), (33, .goto 9, 3), (36, .aload_n 0, 1), (37, .getfield 19, 3), (40, .iload_n 1, 1), (41, .iaload, 1), (42, .ireturn, 1)]
theorem dd_M_byteAt : ∀ (i : Nat) (q : Nat × Instr × Nat), tb_M_byteAt[i]? = some q → decode b_M_byteAt q.1 = .ok (q.2.1, q.2.2) := z_tab (by decide +kernel)
theorem d_M_byteAt_0 : decode b_M_byteAt 0 = .ok (.aload_n 0, 1) := dd_M_byteAt 0 (0, .aload_n 0, 1) rfl
theorem d_M_byteAt_1 : decode b_M_byteAt 1 = .ok (.iload_n 1, 1) := dd_M_byteAt 1 (1, .iload_n 1, 1) rfl
theorem d_M_byteAt_2 : decode b_M_byteAt 2 = .ok (.i2l, 1) := dd_M_byteAt 2 (2, .i2l, 1) rfl
theorem d_M_byteAt_3 : decode b_M_byteAt 3 = .ok (.lconst 0, 1) := dd_M_byteAt 3 (3, .lconst 0, 1) rfl
theorem d_M_byteAt_4 : decode b_M_byteAt 4 = .ok (.aload_n 0, 1) := dd_M_byteAt 4 (4, .aload_n 0, 1) rfl
theorem d_M_byteAt_5 : decode b_M_byteAt 5 = .ok (.invokevirtual 159, 3) := dd_M_byteAt 5 (5, .invokevirtual 159, 3) rfl
theorem d_M_byteAt_8 : decode b_M_byteAt 8 = .ok (.iconst 1, 1) := dd_M_byteAt 6 (8, .iconst 1, 1) rfl
theorem d_M_byteAt_9 : decode b_M_byteAt 9 = .ok (.isub, 1) := dd_M_byteAt 7 (9, .isub, 1) rfl
theorem d_M_byteAt_10 : decode b_M_byteAt 10 = .ok (.i2l, 1) := dd_M_byteAt 8 (10, .i2l, 1) rfl
theorem d_M_byteAt_11 : decode b_M_byteAt 11 = .ok (.invokestatic 55, 3) := dd_M_byteAt 9 (11, .invokestatic 55, 3) rfl
theorem d_M_byteAt_14 : decode b_M_byteAt 14 = .ok (.ifCond .eq 7, 3) := dd_M_byteAt 10 (14, .ifCond .eq 7, 3) rfl
theorem d_M_byteAt_17 : decode b_M_byteAt 17 = .ok (.iconst 0, 1) := dd_M_byteAt 11 (17, .iconst 0, 1) rfl
theorem d_M_byteAt_18 : decode b_M_byteAt 18 = .ok (.goto 4, 3) := dd_M_byteAt 12 (18, .goto 4, 3) rfl
theorem d_M_byteAt_21 : decode b_M_byteAt 21 = .ok (.iconst 1, 1) := dd_M_byteAt 13 (21, .iconst 1, 1) rfl
theorem d_M_byteAt_22 : decode b_M_byteAt 22 = .ok (.putfield 50, 3) := dd_M_byteAt 14 (22, .putfield 50, 3) rfl
theorem d_M_byteAt_25 : decode b_M_byteAt 25 = .ok (.aload_n 0, 1) := dd_M_byteAt 15 (25, .aload_n 0, 1) rfl
theorem d_M_byteAt_26 : decode b_M_byteAt 26 = .ok (.getfield 50, 3) := dd_M_byteAt 16 (26, .getfield 50, 3) rfl
theorem d_M_byteAt_29 : decode b_M_byteAt 29 = .ok (.ifCond .le 7, 3) := dd_M_byteAt 17 (29, .ifCond .le 7, 3) rfl
theorem d_M_byteAt_32 : decode b_M_byteAt 32 = .ok (.iconst 0, 1) := dd_M_byteAt 18 (32, .iconst 0, 1) rfl
theorem d_M_byteAt_33 : decode b_M_byteAt 33 = .ok (.goto 9, 3) := dd_M_byteAt 19 (33, .goto 9, 3) rfl
theorem d_M_byteAt_36 : decode b_M_byteAt 36 = .ok (.aload_n 0, 1) := dd_M_byteAt 20 (36, .aload_n 0, 1) rfl
theorem d_M_byteAt_37 : decode b_M_byteAt 37 = .ok (.getfield 19, 3) := dd_M_byteAt 21 (37, .getfield 19, 3) rfl
theorem d_M_byteAt_40 : decode b_M_byteAt 40 = .ok (.iload_n 1, 1) := dd_M_byteAt 22 (40, .iload_n 1, 1) rfl
theorem d_M_byteAt_41 : decode b_M_byteAt 41 = .ok (.iaload, 1) := dd_M_byteAt 23 (41, .iaload, 1) rfl
theorem d_M_byteAt_42 : decode b_M_byteAt 42 = .ok (.ireturn, 1) := dd_M_byteAt 24 (42, .ireturn, 1) rfl
def tb_M_feed : List (Nat × Instr × Nat) := [(0, .aload_n 0, 1), (1, .iload_n 1, 1), (2, .i2l, 1), (3, .lconst 0, 1), (4, .ldc2_w 63, 3), (7, .invokestatic 55, 3), (10, .ifCond .ne 7, 3), (13, .iconst 1, 1), (14, .goto 18, 3), (17, .aload_n 0, 1), (18, .getfield 163, 3), (21, .sipush 2000, 3), (24, .if_icmp .ne 7, 3), (27, .iconst 2, 1), (28, .goto 4, 3), (31, .iconst 0, 1), (32, .putfield 50, 3), (35, .aload_n 0, 1), (36, .getfield 50, 3), (39, .ifCond .le 5, 3), (42, .iconst 0, 1), (43, .ireturn, 1), (44, .aload_n 0, 1), (45, .getfield 22, 3), (48, .aload_n 0, 1), (49, .getfield 163, 3), (52, .iload_n 1, 1), (53, .iastore, 1), (54, .aload_n 0, 1), (55, .dup, 1), (56, .getfield 163, 3), (59, .iconst 1, 1), (60, .iadd, 1), (61, .putfield 163, 3), (64, .aload_n 0, 1), (65, .getfield 163, 3), (68, .ireturn, 1)]
theorem dd_M_feed : ∀ (i : Nat) (q : Nat × Instr × Nat), tb_M_feed[i]? = some q → decode b_M_feed q.1 = .ok (q.2.1, q.2.2) := z_tab (by decide +kernel)
theorem d_M_feed_0 : decode b_M_feed 0 = .ok (.aload_n 0, 1) := dd_M_feed 0 (0, .aload_n 0, 1) rfl
theorem d_M_feed_1 : decode b_M_feed 1 = .ok (.iload_n 1, 1) := dd_M_feed 1 (1, .iload_n 1, 1) rfl
theorem d_M_feed_2 : decode b_M_feed 2 = .ok (.i2l, 1) := dd_M_feed 2 (2, .i2l, 1) rfl
theorem d_M_feed_3 : decode b_M_feed 3 = .ok (.lconst 0, 1) := dd_M_feed 3 (3, .lconst 0, 1) rfl
theorem d_M_feed_4 : decode b_M_feed 4 = .ok (.ldc2_w 63, 3) := dd_M_feed 4 (4, .ldc2_w 63, 3) rfl
theorem d_M_feed_7 : decode b_M_feed 7 = .ok (.invokestatic 55, 3) := dd_M_feed 5 (7, .invokestatic 55, 3) rfl
theorem d_M_feed_10 : decode b_M_feed 10 = .ok (.ifCond .ne 7, 3) := dd_M_feed 6 (10, .ifCond .ne 7, 3) rfl
theorem d_M_feed_13 : decode b_M_feed 13 = .ok (.iconst 1, 1) := dd_M_feed 7 (13, .iconst 1, 1) rfl
theorem d_M_feed_14 : decode b_M_feed 14 = .ok (.goto 18, 3) := dd_M_feed 8 (14, .goto 18, 3) rfl
theorem d_M_feed_17 : decode b_M_feed 17 = .ok (.aload_n 0, 1) := dd_M_feed 9 (17, .aload_n 0, 1) rfl
theorem d_M_feed_18 : decode b_M_feed 18 = .ok (.getfield 163, 3) := dd_M_feed 10 (18, .getfield 163, 3) rfl
theorem d_M_feed_21 : decode b_M_feed 21 = .ok (.sipush 2000, 3) := dd_M_feed 11 (21, .sipush 2000, 3) rfl
theorem d_M_feed_24 : decode b_M_feed 24 = .ok (.if_icmp .ne 7, 3) := dd_M_feed 12 (24, .if_icmp .ne 7, 3) rfl
theorem d_M_feed_27 : decode b_M_feed 27 = .ok (.iconst 2, 1) := dd_M_feed 13 (27, .iconst 2, 1) rfl
theorem d_M_feed_28 : decode b_M_feed 28 = .ok (.goto 4, 3) := dd_M_feed 14 (28, .goto 4, 3) rfl
theorem d_M_feed_31 : decode b_M_feed 31 = .ok (.iconst 0, 1) := dd_M_feed 15 (31, .iconst 0, 1) rfl
theorem d_M_feed_32 : decode b_M_feed 32 = .ok (.putfield 50, 3) := dd_M_feed 16 (32, .putfield 50, 3) rfl
theorem d_M_feed_35 : decode b_M_feed 35 = .ok (.aload_n 0, 1) := dd_M_feed 17 (35, .aload_n 0, 1) rfl
theorem d_M_feed_36 : decode b_M_feed 36 = .ok (.getfield 50, 3) := dd_M_feed 18 (36, .getfield 50, 3) rfl
theorem d_M_feed_39 : decode b_M_feed 39 = .ok (.ifCond .le 5, 3) := dd_M_feed 19 (39, .ifCond .le 5, 3) rfl
theorem d_M_feed_42 : decode b_M_feed 42 = .ok (.iconst 0, 1) := dd_M_feed 20 (42, .iconst 0, 1) rfl
theorem d_M_feed_43 : decode b_M_feed 43 = .ok (.ireturn, 1) := dd_M_feed 21 (43, .ireturn, 1) rfl
theorem d_M_feed_44 : decode b_M_feed 44 = .ok (.aload_n 0, 1) := dd_M_feed 22 (44, .aload_n 0, 1) rfl
theorem d_M_feed_45 : decode b_M_feed 45 = .ok (.getfield 22, 3) := dd_M_feed 23 (45, .getfield 22, 3) rfl
theorem d_M_feed_48 : decode b_M_feed 48 = .ok (.aload_n 0, 1) := dd_M_feed 24 (48, .aload_n 0, 1) rfl
theorem d_M_feed_49 : decode b_M_feed 49 = .ok (.getfield 163, 3) := dd_M_feed 25 (49, .getfield 163, 3) rfl
theorem d_M_feed_52 : decode b_M_feed 52 = .ok (.iload_n 1, 1) := dd_M_feed 26 (52, .iload_n 1, 1) rfl
theorem d_M_feed_53 : decode b_M_feed 53 = .ok (.iastore, 1) := dd_M_feed 27 (53, .iastore, 1) rfl
theorem d_M_feed_54 : decode b_M_feed 54 = .ok (.aload_n 0, 1) := dd_M_feed 28 (54, .aload_n 0, 1) rfl
theorem d_M_feed_55 : decode b_M_feed 55 = .ok (.dup, 1) := dd_M_feed 29 (55, .dup, 1) rfl
theorem d_M_feed_56 : decode b_M_feed 56 = .ok (.getfield 163, 3) := dd_M_feed 30 (56, .getfield 163, 3) rfl
theorem d_M_feed_59 : decode b_M_feed 59 = .ok (.iconst 1, 1) := dd_M_feed 31 (59, .iconst 1, 1) rfl
theorem d_M_feed_60 : decode b_M_feed 60 = .ok (.iadd, 1) := dd_M_feed 32 (60, .iadd, 1) rfl
theorem d_M_feed_61 : decode b_M_feed 61 = .ok (.putfield 163, 3) := dd_M_feed 33 (61, .putfield 163, 3) rfl
theorem d_M_feed_64 : decode b_M_feed 64 = .ok (.aload_n 0, 1) := dd_M_feed 34 (64, .aload_n 0, 1) rfl
theorem d_M_feed_65 : decode b_M_feed 65 = .ok (.getfield 163, 3) := dd_M_feed 35 (65, .getfield 163, 3) rfl
theorem d_M_feed_68 : decode b_M_feed 68 = .ok (.ireturn, 1) := dd_M_feed 36 (68, .ireturn, 1) rfl
def tb_M_pass : List (Nat × Instr × Nat) := [(0, .aload_n 0, 1), (1, .aload_n 0, 1), (2, .getfield 163, 3), (5, .aload_n 0, 1), (6, .invokevirtual 159, 3), (9, .iadd, 1), (10, .sipush 2000, 3), (13, .if_icmp .le 7, 3), (16, .iconst 1, 1), (17, .goto 4, 3), (20, .iconst 0, 1), (21, .putfield 50, 3), (24, .iconst 0, 1), (25, .istore_n 1, 1), (26, .iload_n 1, 1), (27, .aload_n 0, 1), (28, .invokevirtual 159, 3), (31, .if_icmp .ge 41, 3), (34, .aload_n 0, 1), (35, .getfield 50, 3), (38, .ifCond .ne 34, 3), (41, .aload_n 0, 1), (42, .getfield 22, 3), (45, .aload_n 0, 1), (46, .getfield 163, 3), (49, .aload_n 0, 1), (50, .getfield 19, 3), (53, .iload_n 1, 1), (54, .iaload, 1), (55, .iastore, 1), (56, .aload_n 0, 1), (57, .dup, 1), (58, .getfield 163, 3), (61, .iconst 1, 1), (62, .iadd, 1), (63, .putfield 163, 3), (66, .iinc 1 1, 3), (69, .goto (-43), 3), (72, .aload_n 0, 1), (73, .getfield 50, 3), (76, .ifCond .le 7, 3), (79, .iconst 0, 1), (80, .goto 7, 3), (83, .aload_n 0, 1), (84, .getfield 163, 3), (87, .ireturn, 1)]
theorem dd_M_pass : ∀ (i : Nat) (q : Nat × Instr × Nat), tb_M_pass[i]? = some q → decode b_M_pass q.1 = .ok (q.2.1, q.2.2) := z_tab (by decide +kernel)
theorem d_M_pass_0 : decode b_M_pass 0 = .ok (.aload_n 0, 1) := dd_M_pass 0 (0, .aload_n 0, 1) rfl
theorem d_M_pass_1 : decode b_M_pass 1 = .ok (.aload_n 0, 1) := dd_M_pass 1 (1, .aload_n 0, 1) rfl
theorem d_M_pass_2 : decode b_M_pass 2 = .ok (.getfield 163, 3) := dd_M_pass 2 (2, .getfield 163, 3) rfl
theorem d_M_pass_5 : decode b_M_pass 5 = .ok (.aload_n 0, 1) := dd_M_pass 3 (5, .aload_n 0, 1) rfl
theorem d_M_pass_6 : decode b_M_pass 6 = .ok (.invokevirtual 159, 3) := dd_M_pass 4 (6, .invokevirtual 159, 3) rfl
theorem d_M_pass_9 : decode b_M_pass 9 = .ok (.iadd, 1) := dd_M_pass 5 (9, .iadd, 1) rfl
theorem d_M_pass_10 : decode b_M_pass 10 = .ok (.sipush 2000, 3) := dd_M_pass 6 (10, .sipush 2000, 3) rfl
theorem d_M_pass_13 : decode b_M_pass 13 = .ok (.if_icmp .le 7, 3) := dd_M_pass 7 (13, .if_icmp .le 7, 3) rfl
theorem d_M_pass_16 : decode b_M_pass 16 = .ok (.iconst 1, 1) := dd_M_pass 8 (16, .iconst 1, 1) rfl
theorem d_M_pass_17 : decode b_M_pass 17 = .ok (.goto 4, 3) := dd_M_pass 9 (17, .goto 4, 3) rfl
theorem d_M_pass_20 : decode b_M_pass 20 = .ok (.iconst 0, 1) := dd_M_pass 10 (20, .iconst 0, 1) rfl
theorem d_M_pass_21 : decode b_M_pass 21 = .ok (.putfield 50, 3) := dd_M_pass 11 (21, .putfield 50, 3) rfl
theorem d_M_pass_24 : decode b_M_pass 24 = .ok (.iconst 0, 1) := dd_M_pass 12 (24, .iconst 0, 1) rfl
theorem d_M_pass_25 : decode b_M_pass 25 = .ok (.istore_n 1, 1) := dd_M_pass 13 (25, .istore_n 1, 1) rfl
theorem d_M_pass_26 : decode b_M_pass 26 = .ok (.iload_n 1, 1) := dd_M_pass 14 (26, .iload_n 1, 1) rfl
theorem d_M_pass_27 : decode b_M_pass 27 = .ok (.aload_n 0, 1) := dd_M_pass 15 (27, .aload_n 0, 1) rfl
theorem d_M_pass_28 : decode b_M_pass 28 = .ok (.invokevirtual 159, 3) := dd_M_pass 16 (28, .invokevirtual 159, 3) rfl
theorem d_M_pass_31 : decode b_M_pass 31 = .ok (.if_icmp .ge 41, 3) := dd_M_pass 17 (31, .if_icmp .ge 41, 3) rfl
theorem d_M_pass_34 : decode b_M_pass 34 = .ok (.aload_n 0, 1) := dd_M_pass 18 (34, .aload_n 0, 1) rfl
theorem d_M_pass_35 : decode b_M_pass 35 = .ok (.getfield 50, 3) := dd_M_pass 19 (35, .getfield 50, 3) rfl
theorem d_M_pass_38 : decode b_M_pass 38 = .ok (.ifCond .ne 34, 3) := dd_M_pass 20 (38, .ifCond .ne 34, 3) rfl
theorem d_M_pass_41 : decode b_M_pass 41 = .ok (.aload_n 0, 1) := dd_M_pass 21 (41, .aload_n 0, 1) rfl
theorem d_M_pass_42 : decode b_M_pass 42 = .ok (.getfield 22, 3) := dd_M_pass 22 (42, .getfield 22, 3) rfl
theorem d_M_pass_45 : decode b_M_pass 45 = .ok (.aload_n 0, 1) := dd_M_pass 23 (45, .aload_n 0, 1) rfl
theorem d_M_pass_46 : decode b_M_pass 46 = .ok (.getfield 163, 3) := dd_M_pass 24 (46, .getfield 163, 3) rfl
theorem d_M_pass_49 : decode b_M_pass 49 = .ok (.aload_n 0, 1) := dd_M_pass 25 (49, .aload_n 0, 1) rfl
theorem d_M_pass_50 : decode b_M_pass 50 = .ok (.getfield 19, 3) := dd_M_pass 26 (50, .getfield 19, 3) rfl
theorem d_M_pass_53 : decode b_M_pass 53 = .ok (.iload_n 1, 1) := dd_M_pass 27 (53, .iload_n 1, 1) rfl
theorem d_M_pass_54 : decode b_M_pass 54 = .ok (.iaload, 1) := dd_M_pass 28 (54, .iaload, 1) rfl
theorem d_M_pass_55 : decode b_M_pass 55 = .ok (.iastore, 1) := dd_M_pass 29 (55, .iastore, 1) rfl
theorem d_M_pass_56 : decode b_M_pass 56 = .ok (.aload_n 0, 1) := dd_M_pass 30 (56, .aload_n 0, 1) rfl
theorem d_M_pass_57 : decode b_M_pass 57 = .ok (.dup, 1) := dd_M_pass 31 (57, .dup, 1) rfl
theorem d_M_pass_58 : decode b_M_pass 58 = .ok (.getfield 163, 3) := dd_M_pass 32 (58, .getfield 163, 3) rfl
theorem d_M_pass_61 : decode b_M_pass 61 = .ok (.iconst 1, 1) := dd_M_pass 33 (61, .iconst 1, 1) rfl
theorem d_M_pass_62 : decode b_M_pass 62 = .ok (.iadd, 1) := dd_M_pass 34 (62, .iadd, 1) rfl
theorem d_M_pass_63 : decode b_M_pass 63 = .ok (.putfield 163, 3) := dd_M_pass 35 (63, .putfield 163, 3) rfl
theorem d_M_pass_66 : decode b_M_pass 66 = .ok (.iinc 1 1, 3) := dd_M_pass 36 (66, .iinc 1 1, 3) rfl
theorem d_M_pass_69 : decode b_M_pass 69 = .ok (.goto (-43), 3) := dd_M_pass 37 (69, .goto (-43), 3) rfl
theorem d_M_pass_72 : decode b_M_pass 72 = .ok (.aload_n 0, 1) := dd_M_pass 38 (72, .aload_n 0, 1) rfl
theorem d_M_pass_73 : decode b_M_pass 73 = .ok (.getfield 50, 3) := dd_M_pass 39 (73, .getfield 50, 3) rfl
theorem d_M_pass_76 : decode b_M_pass 76 = .ok (.ifCond .le 7, 3) := dd_M_pass 40 (76, .ifCond .le 7, 3) rfl
theorem d_M_pass_79 : decode b_M_pass 79 = .ok (.iconst 0, 1) := dd_M_pass 41 (79, .iconst 0, 1) rfl
theorem d_M_pass_80 : decode b_M_pass 80 = .ok (.goto 7, 3) := dd_M_pass 42 (80, .goto 7, 3) rfl
theorem d_M_pass_83 : decode b_M_pass 83 = .ok (.aload_n 0, 1) := dd_M_pass 43 (83, .aload_n 0, 1) rfl
theorem d_M_pass_84 : decode b_M_pass 84 = .ok (.getfield 163, 3) := dd_M_pass 44 (84, .getfield 163, 3) rfl
theorem d_M_pass_87 : decode b_M_pass 87 = .ok (.ireturn, 1) := dd_M_pass 45 (87, .ireturn, 1) rfl
