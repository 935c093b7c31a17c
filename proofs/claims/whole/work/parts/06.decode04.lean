def tb_M_bitAt : List (Nat × Instr × Nat) := [(0, .aload_n 0, 1), (1, .getfield 22, 3), (4, .iload_n 1, 1), (5, .bipush 8, 2), (7, .idiv, 1), (8, .iaload, 1), (9, .bipush 7, 2), (11, .iload_n 1, 1), (12, .bipush 8, 2), (14, .irem, 1), (15, .isub, 1), (16, .ishr, 1), (17, .iconst 1, 1), (18, .iand, 1), (19, .ireturn, 1)]
theorem dd_M_bitAt : ∀ (i : Nat) (q : Nat × Instr × Nat), tb_M_bitAt[i]? = some q → decode b_M_bitAt q.1 = .ok (q.2.1, q.2.2) := z_tab (by decide +kernel)
theorem d_M_bitAt_0 : decode b_M_bitAt 0 = .ok (.aload_n 0, 1) := dd_M_bitAt 0 (0, .aload_n 0, 1) rfl
theorem d_M_bitAt_1 : decode b_M_bitAt 1 = .ok (.getfield 22, 3) := dd_M_bitAt 1 (1, .getfield 22, 3) rfl
theorem d_M_bitAt_4 : decode b_M_bitAt 4 = .ok (.iload_n 1, 1) := dd_M_bitAt 2 (4, .iload_n 1, 1) rfl
theorem d_M_bitAt_5 : decode b_M_bitAt 5 = .ok (.bipush 8, 2) := dd_M_bitAt 3 (5, .bipush 8, 2) rfl
theorem d_M_bitAt_7 : decode b_M_bitAt 7 = .ok (.idiv, 1) := dd_M_bitAt 4 (7, .idiv, 1) rfl
theorem d_M_bitAt_8 : decode b_M_bitAt 8 = .ok (.iaload, 1) := dd_M_bitAt 5 (8, .iaload, 1) rfl
theorem d_M_bitAt_9 : decode b_M_bitAt 9 = .ok (.bipush 7, 2) := dd_M_bitAt 6 (9, .bipush 7, 2) rfl
theorem d_M_bitAt_11 : decode b_M_bitAt 11 = .ok (.iload_n 1, 1) := dd_M_bitAt 7 (11, .iload_n 1, 1) rfl
theorem d_M_bitAt_12 : decode b_M_bitAt 12 = .ok (.bipush 8, 2) := dd_M_bitAt 8 (12, .bipush 8, 2) rfl
theorem d_M_bitAt_14 : decode b_M_bitAt 14 = .ok (.irem, 1) := dd_M_bitAt 9 (14, .irem, 1) rfl
theorem d_M_bitAt_15 : decode b_M_bitAt 15 = .ok (.isub, 1) := dd_M_bitAt 10 (15, .isub, 1) rfl
theorem d_M_bitAt_16 : decode b_M_bitAt 16 = .ok (.ishr, 1) := dd_M_bitAt 11 (16, .ishr, 1) rfl
theorem d_M_bitAt_17 : decode b_M_bitAt 17 = .ok (.iconst 1, 1) := dd_M_bitAt 12 (17, .iconst 1, 1) rfl
theorem d_M_bitAt_18 : decode b_M_bitAt 18 = .ok (.iand, 1) := dd_M_bitAt 13 (18, .iand, 1) rfl
theorem d_M_bitAt_19 : decode b_M_bitAt 19 = .ok (.ireturn, 1) := dd_M_bitAt 14 (19, .ireturn, 1) rfl
def tb_M_take : List (Nat × Instr × Nat) := [(0, .iconst 0, 1), (1, .istore_n 2, 1), (2, .iconst 0, 1), (3, .istore_n 3, 1), (4, .iload_n 3, 1), (5, .iload_n 1, 1), (6, .if_icmp .ge 60, 3), (9, .aload_n 0, 1), (10, .getfield 166, 3), (13, .ifCond .ge 53, 3), (16, .aload_n 0, 1), (17, .getfield 169, 3), (20, .bipush 8, 2), (22, .aload_n 0, 1), (23, .getfield 163, 3), (26, .imul, 1), (27, .if_icmp .ne 10, 3), (30, .aload_n 0, 1), (31, .iconst 3, 1), (32, .putfield 166, 3), (35, .iconst 0, 1), (36, .ireturn, 1), (37, .iconst 2, 1), (38, .iload_n 2, 1), (39, .imul, 1), (40, .aload_n 0, 1), (41, .aload_n 0, 1), (42, .getfield 169, 3), (45, .invokevirtual 172, 3), (48, .iadd, 1), (49, .istore_n 2, 1), (50, .aload_n 0, 1), (51, .dup, 1), (52, .getfield 169, 3), (55, .iconst 1, 1), (56, .iadd, 1), (57, .putfield 169, 3), (60, .iinc 3 1, 3), (63, .goto (-59), 3), (66, .iload_n 2, 1), (67, .ireturn, 1)]
theorem dd_M_take : ∀ (i : Nat) (q : Nat × Instr × Nat), tb_M_take[i]? = some q → decode b_M_take q.1 = .ok (q.2.1, q.2.2) := z_tab (by decide +kernel)
theorem d_M_take_0 : decode b_M_take 0 = .ok (.iconst 0, 1) := dd_M_take 0 (0, .iconst 0, 1) rfl
theorem d_M_take_1 : decode b_M_take 1 = .ok (.istore_n 2, 1) := dd_M_take 1 (1, .istore_n 2, 1) rfl
theorem d_M_take_2 : decode b_M_take 2 = .ok (.iconst 0, 1) := dd_M_take 2 (2, .iconst 0, 1) rfl
theorem d_M_take_3 : decode b_M_take 3 = .ok (.istore_n 3, 1) := dd_M_take 3 (3, .istore_n 3, 1) rfl
theorem d_M_take_4 : decode b_M_take 4 = .ok (.iload_n 3, 1) := dd_M_take 4 (4, .iload_n 3, 1) rfl
theorem d_M_take_5 : decode b_M_take 5 = .ok (.iload_n 1, 1) := dd_M_take 5 (5, .iload_n 1, 1) rfl
theorem d_M_take_6 : decode b_M_take 6 = .ok (.if_icmp .ge 60, 3) := dd_M_take 6 (6, .if_icmp .ge 60, 3) rfl
theorem d_M_take_9 : decode b_M_take 9 = .ok (.aload_n 0, 1) := dd_M_take 7 (9, .aload_n 0, 1) rfl
theorem d_M_take_10 : decode b_M_take 10 = .ok (.getfield 166, 3) := dd_M_take 8 (10, .getfield 166, 3) rfl
theorem d_M_take_13 : decode b_M_take 13 = .ok (.ifCond .ge 53, 3) := dd_M_take 9 (13, .ifCond .ge 53, 3) rfl
theorem d_M_take_16 : decode b_M_take 16 = .ok (.aload_n 0, 1) := dd_M_take 10 (16, .aload_n 0, 1) rfl
theorem d_M_take_17 : decode b_M_take 17 = .ok (.getfield 169, 3) := dd_M_take 11 (17, .getfield 169, 3) rfl
theorem d_M_take_20 : decode b_M_take 20 = .ok (.bipush 8, 2) := dd_M_take 12 (20, .bipush 8, 2) rfl
theorem d_M_take_22 : decode b_M_take 22 = .ok (.aload_n 0, 1) := dd_M_take 13 (22, .aload_n 0, 1) rfl
theorem d_M_take_23 : decode b_M_take 23 = .ok (.getfield 163, 3) := dd_M_take 14 (23, .getfield 163, 3) rfl
theorem d_M_take_26 : decode b_M_take 26 = .ok (.imul, 1) := dd_M_take 15 (26, .imul, 1) rfl
theorem d_M_take_27 : decode b_M_take 27 = .ok (.if_icmp .ne 10, 3) := dd_M_take 16 (27, .if_icmp .ne 10, 3) rfl
theorem d_M_take_30 : decode b_M_take 30 = .ok (.aload_n 0, 1) := dd_M_take 17 (30, .aload_n 0, 1) rfl
theorem d_M_take_31 : decode b_M_take 31 = .ok (.iconst 3, 1) := dd_M_take 18 (31, .iconst 3, 1) rfl
theorem d_M_take_32 : decode b_M_take 32 = .ok (.putfield 166, 3) := dd_M_take 19 (32, .putfield 166, 3) rfl
theorem d_M_take_35 : decode b_M_take 35 = .ok (.iconst 0, 1) := dd_M_take 20 (35, .iconst 0, 1) rfl
theorem d_M_take_36 : decode b_M_take 36 = .ok (.ireturn, 1) := dd_M_take 21 (36, .ireturn, 1) rfl
theorem d_M_take_37 : decode b_M_take 37 = .ok (.iconst 2, 1) := dd_M_take 22 (37, .iconst 2, 1) rfl
theorem d_M_take_38 : decode b_M_take 38 = .ok (.iload_n 2, 1) := dd_M_take 23 (38, .iload_n 2, 1) rfl
theorem d_M_take_39 : decode b_M_take 39 = .ok (.imul, 1) := dd_M_take 24 (39, .imul, 1) rfl
theorem d_M_take_40 : decode b_M_take 40 = .ok (.aload_n 0, 1) := dd_M_take 25 (40, .aload_n 0, 1) rfl
theorem d_M_take_41 : decode b_M_take 41 = .ok (.aload_n 0, 1) := dd_M_take 26 (41, .aload_n 0, 1) rfl
theorem d_M_take_42 : decode b_M_take 42 = .ok (.getfield 169, 3) := dd_M_take 27 (42, .getfield 169, 3) rfl
theorem d_M_take_45 : decode b_M_take 45 = .ok (.invokevirtual 172, 3) := dd_M_take 28 (45, .invokevirtual 172, 3) rfl
theorem d_M_take_48 : decode b_M_take 48 = .ok (.iadd, 1) := dd_M_take 29 (48, .iadd, 1) rfl
theorem d_M_take_49 : decode b_M_take 49 = .ok (.istore_n 2, 1) := dd_M_take 30 (49, .istore_n 2, 1) rfl
theorem d_M_take_50 : decode b_M_take 50 = .ok (.aload_n 0, 1) := dd_M_take 31 (50, .aload_n 0, 1) rfl
theorem d_M_take_51 : decode b_M_take 51 = .ok (.dup, 1) := dd_M_take 32 (51, .dup, 1) rfl
theorem d_M_take_52 : decode b_M_take 52 = .ok (.getfield 169, 3) := dd_M_take 33 (52, .getfield 169, 3) rfl
theorem d_M_take_55 : decode b_M_take 55 = .ok (.iconst 1, 1) := dd_M_take 34 (55, .iconst 1, 1) rfl
theorem d_M_take_56 : decode b_M_take 56 = .ok (.iadd, 1) := dd_M_take 35 (56, .iadd, 1) rfl
theorem d_M_take_57 : decode b_M_take 57 = .ok (.putfield 169, 3) := dd_M_take 36 (57, .putfield 169, 3) rfl
theorem d_M_take_60 : decode b_M_take 60 = .ok (.iinc 3 1, 3) := dd_M_take 37 (60, .iinc 3 1, 3) rfl
theorem d_M_take_63 : decode b_M_take 63 = .ok (.goto (-59), 3) := dd_M_take 38 (63, .goto (-59), 3) rfl
theorem d_M_take_66 : decode b_M_take 66 = .ok (.iload_n 2, 1) := dd_M_take 39 (66, .iload_n 2, 1) rfl
theorem d_M_take_67 : decode b_M_take 67 = .ok (.ireturn, 1) := dd_M_take 40 (67, .ireturn, 1) rfl
def tb_M_readBlock : List (Nat × Instr × Nat) := [(0, .aload_n 0, 1), (1, .getfield 43, 3), (4, .iconst 0, 1), (5, .aload_n 0, 1), (6, .aload_n 0, 1), (7, .iload_n 3, 1), (8, .invokevirtual 151, 3), (11, .invokevirtual 175, 3), (14, .iastore, 1), (15, .aload_n 0, 1), (16, .aload_n 0, 1), (17, .getfield 166, 3), (20, .ifCond .ge 27, 3), (23, .aload_n 0, 1), (24, .getfield 43, 3), (27, .iconst 0, 1), (28, .iaload, 1), (29, .aload_n 0, 1), (30, .iload_n 3, 1), (31, .invokevirtual 69, 3), (34, .aload_n 0, 1), (35, .iload_n 3, 1), (36, .invokevirtual 69, 3), (39, .imul, 1), (40, .if_icmp .lt 7, 3), (43, .iconst 1, 1), (44, .goto 7, 3), (47, .aload_n 0, 1), (48, .getfield 166, 3), (51, .putfield 166, 3), (54, .aload_n 0, 1), (55, .getfield 43, 3), (58, .iconst 1, 1), (59, .aload_n 0, 1), (60, .iconst 3, 1), (61, .invokevirtual 175, 3), (64, .iastore, 1), (65, .aload_n 0, 1), (66, .getfield 43, 3), (69, .iconst 2, 1), (70, .aload_n 0, 1), (71, .iconst 4, 1), (72, .invokevirtual 175, 3), (75, .bipush 7, 2), (77, .isub, 1), (78, .iastore, 1), (79, .aload_n 0, 1), (80, .aload_n 0, 1), (81, .getfield 166, 3), (84, .ifCond .ge 18, 3), (87, .aload_n 0, 1), (88, .getfield 43, 3), (91, .iconst 2, 1), (92, .iaload, 1), (93, .bipush 7, 2), (95, .if_icmp .le 7, 3), (98, .iconst 2, 1), (99, .goto 7, 3), (102, .aload_n 0, 1), (103, .getfield 166, 3), (106, .putfield 166, 3), (109, .aload_n 0, 1), (110, .getfield 43, 3), (113, .iconst 3, 1), (114, .aload_n 0, 1), (115, .bipush 10, 2), (117, .invokevirtual 175, 3), (120, .sipush 256, 3), (123, .isub, 1), (124, .iastore, 1), (125, .aload_n 0, 1), (126, .getfield 166, 3), (129, .ifCond .ge 11, 3), (132, .aload_n 0, 1), (133, .iload_n 1, 1), (134, .iload_n 2, 1), (135, .iload_n 3, 1), (136, .iconst (-1), 1), (137, .invokevirtual 147, 3), (140, .return_, 1)]
theorem dd_M_readBlock : ∀ (i : Nat) (q : Nat × Instr × Nat), tb_M_readBlock[i]? = some q → decode b_M_readBlock q.1 = .ok (q.2.1, q.2.2) := z_tab (by decide +kernel)
theorem d_M_readBlock_0 : decode b_M_readBlock 0 = .ok (.aload_n 0, 1) := dd_M_readBlock 0 (0, .aload_n 0, 1) rfl
theorem d_M_readBlock_1 : decode b_M_readBlock 1 = .ok (.getfield 43, 3) := dd_M_readBlock 1 (1, .getfield 43, 3) rfl
theorem d_M_readBlock_4 : decode b_M_readBlock 4 = .ok (.iconst 0, 1) := dd_M_readBlock 2 (4, .iconst 0, 1) rfl
theorem d_M_readBlock_5 : decode b_M_readBlock 5 = .ok (.aload_n 0, 1) := dd_M_readBlock 3 (5, .aload_n 0, 1) rfl
theorem d_M_readBlock_6 : decode b_M_readBlock 6 = .ok (.aload_n 0, 1) := dd_M_readBlock 4 (6, .aload_n 0, 1) rfl
theorem d_M_readBlock_7 : decode b_M_readBlock 7 = .ok (.iload_n 3, 1) := dd_M_readBlock 5 (7, .iload_n 3, 1) rfl
theorem d_M_readBlock_8 : decode b_M_readBlock 8 = .ok (.invokevirtual 151, 3) := dd_M_readBlock 6 (8, .invokevirtual 151, 3) rfl
theorem d_M_readBlock_11 : decode b_M_readBlock 11 = .ok (.invokevirtual 175, 3) := dd_M_readBlock 7 (11, .invokevirtual 175, 3) rfl
theorem d_M_readBlock_14 : decode b_M_readBlock 14 = .ok (.iastore, 1) := dd_M_readBlock 8 (14, .iastore, 1) rfl
theorem d_M_readBlock_15 : decode b_M_readBlock 15 = .ok (.aload_n 0, 1) := dd_M_readBlock 9 (15, .aload_n 0, 1) rfl
theorem d_M_readBlock_16 : decode b_M_readBlock 16 = .ok (.aload_n 0, 1) := dd_M_readBlock 10 (16, .aload_n 0, 1) rfl
theorem d_M_readBlock_17 : decode b_M_readBlock 17 = .ok (.getfield 166, 3) := dd_M_readBlock 11 (17, .getfield 166, 3) rfl
theorem d_M_readBlock_20 : decode b_M_readBlock 20 = .ok (.ifCond .ge 27, 3) := dd_M_readBlock 12 (20, .ifCond .ge 27, 3) rfl
theorem d_M_readBlock_23 : decode b_M_readBlock 23 = .ok (.aload_n 0, 1) := dd_M_readBlock 13 (23, .aload_n 0, 1) rfl
theorem d_M_readBlock_24 : decode b_M_readBlock 24 = .ok (.getfield 43, 3) := dd_M_readBlock 14 (24, .getfield 43, 3) rfl
theorem d_M_readBlock_27 : decode b_M_readBlock 27 = .ok (.iconst 0, 1) := dd_M_readBlock 15 (27, .iconst 0, 1) rfl
theorem d_M_readBlock_28 : decode b_M_readBlock 28 = .ok (.iaload, 1) := dd_M_readBlock 16 (28, .iaload, 1) rfl
theorem d_M_readBlock_29 : decode b_M_readBlock 29 = .ok (.aload_n 0, 1) := dd_M_readBlock 17 (29, .aload_n 0, 1) rfl
theorem d_M_readBlock_30 : decode b_M_readBlock 30 = .ok (.iload_n 3, 1) := dd_M_readBlock 18 (30, .iload_n 3, 1) rfl
theorem d_M_readBlock_31 : decode b_M_readBlock 31 = .ok (.invokevirtual 69, 3) := dd_M_readBlock 19 (31, .invokevirtual 69, 3) rfl
theorem d_M_readBlock_34 : decode b_M_readBlock 34 = .ok (.aload_n 0, 1) := dd_M_readBlock 20 (34, .aload_n 0, 1) rfl
theorem d_M_readBlock_35 : decode b_M_readBlock 35 = .ok (.iload_n 3, 1) := dd_M_readBlock 21 (35, .iload_n 3, 1) rfl
theorem d_M_readBlock_36 : decode b_M_readBlock 36 = .ok (.invokevirtual 69, 3) := dd_M_readBlock 22 (36, .invokevirtual 69, 3) rfl
theorem d_M_readBlock_39 : decode b_M_readBlock 39 = .ok (.imul, 1) := dd_M_readBlock 23 (39, .imul, 1) rfl
theorem d_M_readBlock_40 : decode b_M_readBlock 40 = .ok (.if_icmp .lt 7, 3) := dd_M_readBlock 24 (40, .if_icmp .lt 7, 3) rfl
theorem d_M_readBlock_43 : decode b_M_readBlock 43 = .ok (.iconst 1, 1) := dd_M_readBlock 25 (43, .iconst 1, 1) rfl
theorem d_M_readBlock_44 : decode b_M_readBlock 44 = .ok (.goto 7, 3) := dd_M_readBlock 26 (44, .goto 7, 3) rfl
theorem d_M_readBlock_47 : decode b_M_readBlock 47 = .ok (.aload_n 0, 1) := dd_M_readBlock 27 (47, .aload_n 0, 1) rfl
theorem d_M_readBlock_48 : decode b_M_readBlock 48 = .ok (.getfield 166, 3) := dd_M_readBlock 28 (48, .getfield 166, 3) rfl
theorem d_M_readBlock_51 : decode b_M_readBlock 51 = .ok (.putfield 166, 3) := dd_M_readBlock 29 (51, .putfield 166, 3) rfl
theorem d_M_readBlock_54 : decode b_M_readBlock 54 = .ok (.aload_n 0, 1) := dd_M_readBlock 30 (54, .aload_n 0, 1) rfl
theorem d_M_readBlock_55 : decode b_M_readBlock 55 = .ok (.getfield 43, 3) := dd_M_readBlock 31 (55, .getfield 43, 3) rfl
theorem d_M_readBlock_58 : decode b_M_readBlock 58 = .ok (.iconst 1, 1) := dd_M_readBlock 32 (58, .iconst 1, 1) rfl
theorem d_M_readBlock_59 : decode b_M_readBlock 59 = .ok (.aload_n 0, 1) := dd_M_readBlock 33 (59, .aload_n 0, 1) rfl
theorem d_M_readBlock_60 : decode b_M_readBlock 60 = .ok (.iconst 3, 1) := dd_M_readBlock 34 (60, .iconst 3, 1) rfl
theorem d_M_readBlock_61 : decode b_M_readBlock 61 = .ok (.invokevirtual 175, 3) := dd_M_readBlock 35 (61, .invokevirtual 175, 3) rfl
theorem d_M_readBlock_64 : decode b_M_readBlock 64 = .ok (.iastore, 1) := dd_M_readBlock 36 (64, .iastore, 1) rfl
theorem d_M_readBlock_65 : decode b_M_readBlock 65 = .ok (.aload_n 0, 1) := dd_M_readBlock 37 (65, .aload_n 0, 1) rfl
theorem d_M_readBlock_66 : decode b_M_readBlock 66 = .ok (.getfield 43, 3) := dd_M_readBlock 38 (66, .getfield 43, 3) rfl
theorem d_M_readBlock_69 : decode b_M_readBlock 69 = .ok (.iconst 2, 1) := dd_M_readBlock 39 (69, .iconst 2, 1) rfl
theorem d_M_readBlock_70 : decode b_M_readBlock 70 = .ok (.aload_n 0, 1) := dd_M_readBlock 40 (70, .aload_n 0, 1) rfl
theorem d_M_readBlock_71 : decode b_M_readBlock 71 = .ok (.iconst 4, 1) := dd_M_readBlock 41 (71, .iconst 4, 1) rfl
theorem d_M_readBlock_72 : decode b_M_readBlock 72 = .ok (.invokevirtual 175, 3) := dd_M_readBlock 42 (72, .invokevirtual 175, 3) rfl
theorem d_M_readBlock_75 : decode b_M_readBlock 75 = .ok (.bipush 7, 2) := dd_M_readBlock 43 (75, .bipush 7, 2) rfl
theorem d_M_readBlock_77 : decode b_M_readBlock 77 = .ok (.isub, 1) := dd_M_readBlock 44 (77, .isub, 1) rfl
theorem d_M_readBlock_78 : decode b_M_readBlock 78 = .ok (.iastore, 1) := dd_M_readBlock 45 (78, .iastore, 1) rfl
theorem d_M_readBlock_79 : decode b_M_readBlock 79 = .ok (.aload_n 0, 1) := dd_M_readBlock 46 (79, .aload_n 0, 1) rfl
theorem d_M_readBlock_80 : decode b_M_readBlock 80 = .ok (.aload_n 0, 1) := dd_M_readBlock 47 (80, .aload_n 0, 1) rfl
theorem d_M_readBlock_81 : decode b_M_readBlock 81 = .ok (.getfield 166, 3) := dd_M_readBlock 48 (81, .getfield 166, 3) rfl
theorem d_M_readBlock_84 : decode b_M_readBlock 84 = .ok (.ifCond .ge 18, 3) := dd_M_readBlock 49 (84, .ifCond .ge 18, 3) rfl
theorem d_M_readBlock_87 : decode b_M_readBlock 87 = .ok (.aload_n 0, 1) := dd_M_readBlock 50 (87, .aload_n 0, 1) rfl
theorem d_M_readBlock_88 : decode b_M_readBlock 88 = .ok (.getfield 43, 3) := dd_M_readBlock 51 (88, .getfield 43, 3) rfl
theorem d_M_readBlock_91 : decode b_M_readBlock 91 = .ok (.iconst 2, 1) := dd_M_readBlock 52 (91, .iconst 2, 1) rfl
theorem d_M_readBlock_92 : decode b_M_readBlock 92 = .ok (.iaload, 1) := dd_M_readBlock 53 (92, .iaload, 1) rfl
theorem d_M_readBlock_93 : decode b_M_readBlock 93 = .ok (.bipush 7, 2) := dd_M_readBlock 54 (93, .bipush 7, 2) rfl
theorem d_M_readBlock_95 : decode b_M_readBlock 95 = .ok (.if_icmp .le 7, 3) := dd_M_readBlock 55 (95, .if_icmp .le 7, 3) rfl
theorem d_M_readBlock_98 : decode b_M_readBlock 98 = .ok (.iconst 2, 1) := dd_M_readBlock 56 (98, .iconst 2, 1) rfl
theorem d_M_readBlock_99 : decode b_M_readBlock 99 = .ok (.goto 7, 3) := dd_M_readBlock 57 (99, .goto 7, 3) rfl
theorem d_M_readBlock_102 : decode b_M_readBlock 102 = .ok (.aload_n 0, 1) := dd_M_readBlock 58 (102, .aload_n 0, 1) rfl
theorem d_M_readBlock_103 : decode b_M_readBlock 103 = .ok (.getfield 166, 3) := dd_M_readBlock 59 (103, .getfield 166, 3) rfl
theorem d_M_readBlock_106 : decode b_M_readBlock 106 = .ok (.putfield 166, 3) := dd_M_readBlock 60 (106, .putfield 166, 3) rfl
theorem d_M_readBlock_109 : decode b_M_readBlock 109 = .ok (.aload_n 0, 1) := dd_M_readBlock 61 (109, .aload_n 0, 1) rfl
theorem d_M_readBlock_110 : decode b_M_readBlock 110 = .ok (.getfield 43, 3) := dd_M_readBlock 62 (110, .getfield 43, 3) rfl
theorem d_M_readBlock_113 : decode b_M_readBlock 113 = .ok (.iconst 3, 1) := dd_M_readBlock 63 (113, .iconst 3, 1) rfl
theorem d_M_readBlock_114 : decode b_M_readBlock 114 = .ok (.aload_n 0, 1) := dd_M_readBlock 64 (114, .aload_n 0, 1) rfl
theorem d_M_readBlock_115 : decode b_M_readBlock 115 = .ok (.bipush 10, 2) := dd_M_readBlock 65 (115, .bipush 10, 2) rfl
theorem d_M_readBlock_117 : decode b_M_readBlock 117 = .ok (.invokevirtual 175, 3) := dd_M_readBlock 66 (117, .invokevirtual 175, 3) rfl
theorem d_M_readBlock_120 : decode b_M_readBlock 120 = .ok (.sipush 256, 3) := dd_M_readBlock 67 (120, .sipush 256, 3) rfl
theorem d_M_readBlock_123 : decode b_M_readBlock 123 = .ok (.isub, 1) := dd_M_readBlock 68 (123, .isub, 1) rfl
theorem d_M_readBlock_124 : decode b_M_readBlock 124 = .ok (.iastore, 1) := dd_M_readBlock 69 (124, .iastore, 1) rfl
theorem d_M_readBlock_125 : decode b_M_readBlock 125 = .ok (.aload_n 0, 1) := dd_M_readBlock 70 (125, .aload_n 0, 1) rfl
theorem d_M_readBlock_126 : decode b_M_readBlock 126 = .ok (.getfield 166, 3) := dd_M_readBlock 71 (126, .getfield 166, 3) rfl
theorem d_M_readBlock_129 : decode b_M_readBlock 129 = .ok (.ifCond .ge 11, 3) := dd_M_readBlock 72 (129, .ifCond .ge 11, 3) rfl
theorem d_M_readBlock_132 : decode b_M_readBlock 132 = .ok (.aload_n 0, 1) := dd_M_readBlock 73 (132, .aload_n 0, 1) rfl
theorem d_M_readBlock_133 : decode b_M_readBlock 133 = .ok (.iload_n 1, 1) := dd_M_readBlock 74 (133, .iload_n 1, 1) rfl
theorem d_M_readBlock_134 : decode b_M_readBlock 134 = .ok (.iload_n 2, 1) := dd_M_readBlock 75 (134, .iload_n 2, 1) rfl
theorem d_M_readBlock_135 : decode b_M_readBlock 135 = .ok (.iload_n 3, 1) := dd_M_readBlock 76 (135, .iload_n 3, 1) rfl
theorem d_M_readBlock_136 : decode b_M_readBlock 136 = .ok (.iconst (-1), 1) := dd_M_readBlock 77 (136, .iconst (-1), 1) rfl
theorem d_M_readBlock_137 : decode b_M_readBlock 137 = .ok (.invokevirtual 147, 3) := dd_M_readBlock 78 (137, .invokevirtual 147, 3) rfl
theorem d_M_readBlock_140 : decode b_M_readBlock 140 = .ok (.return_, 1) := dd_M_readBlock 79 (140, .return_, 1) rfl
def tb_M_read : List (Nat × Instr × Nat) := [(0, .aload_n 0, 1), (1, .iconst 0, 1), (2, .putfield 50, 3), (5, .aload_n 0, 1), (6, .iconst 0, 1), (7, .putfield 169, 3), (10, .aload_n 0, 1), (11, .iconst (-1), 1), (12, .putfield 166, 3), (15, .aload_n 0, 1), (16, .iconst 0, 1), (17, .putfield 120, 3), (20, .aload_n 0, 1), (21, .iconst 0, 1), (22, .putfield 114, 3), (25, .aload_n 0, 1), (26, .iconst 3, 1), (27, .invokevirtual 175, 3), (30, .istore_n 1, 1), (31, .iconst 1, 1), (32, .iload_n 1, 1), (33, .ishl, 1), (34, .istore_n 2, 1), (35, .aload_n 0, 1), (36, .aload_n 0, 1), (37, .getfield 166, 3), (40, .ifCond .ge 29, 3), (43, .iload_n 1, 1), (44, .i2l, 1), (45, .lconst 1, 1), (46, .ldc2_w 178, 3), (49, .invokestatic 55, 3), (52, .ifCond .eq 13, 3), (55, .iconst 2, 1), (56, .iload_n 2, 1), (57, .imul, 1), (58, .aload_n 0, 1), (59, .getfield 46, 3), (62, .if_icmp .le 7, 3), (65, .iconst 0, 1), (66, .goto 7, 3), (69, .aload_n 0, 1), (70, .getfield 166, 3), (73, .putfield 166, 3), (76, .aload_n 0, 1), (77, .iconst 0, 1), (78, .iconst 0, 1), (79, .aload_n 0, 1), (80, .getfield 46, 3), (83, .invokevirtual 141, 3), (86, .aload_n 0, 1), (87, .getfield 114, 3), (90, .ifCond .le 101, 3), (93, .aload_n 0, 1), (94, .getfield 166, 3), (97, .ifCond .ge 94, 3), (100, .aload_n 0, 1), (101, .dup, 1), (102, .getfield 114, 3), (105, .iconst 1, 1), (106, .isub, 1), (107, .putfield 114, 3), (110, .aload_n 0, 1), (111, .getfield 25, 3), (114, .iconst 3, 1), (115, .aload_n 0, 1), (116, .getfield 114, 3), (119, .imul, 1), (120, .iaload, 1), (121, .istore_n 3, 1), (122, .aload_n 0, 1), (123, .getfield 25, 3), (126, .iconst 3, 1), (127, .aload_n 0, 1), (128, .getfield 114, 3), (131, .imul, 1), (132, .iconst 1, 1), (133, .iadd, 1), (134, .iaload, 1), (135, .istore 4, 2), (137, .aload_n 0, 1), (138, .getfield 25, 3), (141, .iconst 3, 1), (142, .aload_n 0, 1), (143, .getfield 114, 3), (146, .imul, 1), (147, .iconst 2, 1), (148, .iadd, 1), (149, .iaload, 1), (150, .istore 5, 2), (152, .iload 5, 2), (154, .iload_n 2, 1), (155, .if_icmp .le 24, 3), (158, .aload_n 0, 1), (159, .iconst 1, 1), (160, .invokevirtual 175, 3), (163, .iconst 1, 1), (164, .if_icmp .ne 15, 3), (167, .aload_n 0, 1), (168, .iload_n 3, 1), (169, .iload 4, 2), (171, .iload 5, 2), (173, .invokevirtual 141, 3), (176, .goto 12, 3), (179, .aload_n 0, 1), (180, .iload_n 3, 1), (181, .iload 4, 2), (183, .iload 5, 2), (185, .invokevirtual 180, 3), (188, .goto (-102), 3), (191, .bipush 8, 2), (193, .aload_n 0, 1), (194, .getfield 163, 3), (197, .imul, 1), (198, .aload_n 0, 1), (199, .getfield 169, 3), (202, .isub, 1), (203, .bipush 7, 2), (205, .if_icmp .le 7, 3), (208, .iconst 1, 1), (209, .goto 4, 3), (212, .iconst 0, 1), (213, .istore_n 3, 1), (214, .aload_n 0, 1), (215, .getfield 169, 3), (218, .istore 4, 2), (220, .iload 4, 2), (222, .bipush 8, 2), (224, .aload_n 0, 1), (225, .getfield 163, 3), (228, .imul, 1), (229, .if_icmp .ge 36, 3), (232, .aload_n 0, 1), (233, .getfield 166, 3), (236, .ifCond .ge 29, 3), (239, .iload_n 3, 1), (240, .ifCond .ne 13, 3), (243, .aload_n 0, 1), (244, .iload 4, 2), (246, .invokevirtual 172, 3), (249, .iconst 1, 1), (250, .if_icmp .ne 7, 3), (253, .iconst 1, 1), (254, .goto 4, 3), (257, .iconst 0, 1), (258, .istore_n 3, 1), (259, .iinc 4 1, 3), (262, .goto (-42), 3), (265, .aload_n 0, 1), (266, .aload_n 0, 1), (267, .getfield 166, 3), (270, .ifCond .ge 11, 3), (273, .iload_n 3, 1), (274, .ifCond .eq 7, 3), (277, .iconst 4, 1), (278, .goto 7, 3), (281, .aload_n 0, 1), (282, .getfield 166, 3), (285, .putfield 166, 3), (288, .aload_n 0, 1), (289, .iconst 0, 1), (290, .putfield 163, 3), (293, .aload_n 0, 1), (294, .getfield 166, 3), (297, .ifCond .lt 10, 3), (300, .iconst (-1), 1), (301, .aload_n 0, 1), (302, .getfield 166, 3), (305, .isub, 1), (306, .ireturn, 1), (307, .aload_n 0, 1), (308, .invokevirtual 154, 3), (311, .aload_n 0, 1), (312, .getfield 123, 3), (315, .ireturn, 1)]
theorem dd_M_read : ∀ (i : Nat) (q : Nat × Instr × Nat), tb_M_read[i]? = some q → decode b_M_read q.1 = .ok (q.2.1, q.2.2) := z_tab (by decide +kernel)
theorem d_M_read_0 : decode b_M_read 0 = .ok (.aload_n 0, 1) := dd_M_read 0 (0, .aload_n 0, 1) rfl
theorem d_M_read_1 : decode b_M_read 1 = .ok (.iconst 0, 1) := dd_M_read 1 (1, .iconst 0, 1) rfl
theorem d_M_read_2 : decode b_M_read 2 = .ok (.putfield 50, 3) := dd_M_read 2 (2, .putfield 50, 3) rfl
theorem d_M_read_5 : decode b_M_read 5 = .ok (.aload_n 0, 1) := dd_M_read 3 (5, .aload_n 0, 1) rfl
theorem d_M_read_6 : decode b_M_read 6 = .ok (.iconst 0, 1) := dd_M_read 4 (6, .iconst 0, 1) rfl
theorem d_M_read_7 : decode b_M_read 7 = .ok (.putfield 169, 3) := dd_M_read 5 (7, .putfield 169, 3) rfl
theorem d_M_read_10 : decode b_M_read 10 = .ok (.aload_n 0, 1) := dd_M_read 6 (10, .aload_n 0, 1) rfl
theorem d_M_read_11 : decode b_M_read 11 = .ok (.iconst (-1), 1) := dd_M_read 7 (11, .iconst (-1), 1) rfl
theorem d_M_read_12 : decode b_M_read 12 = .ok (.putfield 166, 3) := dd_M_read 8 (12, .putfield 166, 3) rfl
theorem d_M_read_15 : decode b_M_read 15 = .ok (.aload_n 0, 1) := dd_M_read 9 (15, .aload_n 0, 1) rfl
theorem d_M_read_16 : decode b_M_read 16 = .ok (.iconst 0, 1) := dd_M_read 10 (16, .iconst 0, 1) rfl
theorem d_M_read_17 : decode b_M_read 17 = .ok (.putfield 120, 3) := dd_M_read 11 (17, .putfield 120, 3) rfl
theorem d_M_read_20 : decode b_M_read 20 = .ok (.aload_n 0, 1) := dd_M_read 12 (20, .aload_n 0, 1) rfl
theorem d_M_read_21 : decode b_M_read 21 = .ok (.iconst 0, 1) := dd_M_read 13 (21, .iconst 0, 1) rfl
theorem d_M_read_22 : decode b_M_read 22 = .ok (.putfield 114, 3) := dd_M_read 14 (22, .putfield 114, 3) rfl
theorem d_M_read_25 : decode b_M_read 25 = .ok (.aload_n 0, 1) := dd_M_read 15 (25, .aload_n 0, 1) rfl
theorem d_M_read_26 : decode b_M_read 26 = .ok (.iconst 3, 1) := dd_M_read 16 (26, .iconst 3, 1) rfl
theorem d_M_read_27 : decode b_M_read 27 = .ok (.invokevirtual 175, 3) := dd_M_read 17 (27, .invokevirtual 175, 3) rfl
theorem d_M_read_30 : decode b_M_read 30 = .ok (.istore_n 1, 1) := dd_M_read 18 (30, .istore_n 1, 1) rfl
theorem d_M_read_31 : decode b_M_read 31 = .ok (.iconst 1, 1) := dd_M_read 19 (31, .iconst 1, 1) rfl
theorem d_M_read_32 : decode b_M_read 32 = .ok (.iload_n 1, 1) := dd_M_read 20 (32, .iload_n 1, 1) rfl
theorem d_M_read_33 : decode b_M_read 33 = .ok (.ishl, 1) := dd_M_read 21 (33, .ishl, 1) rfl
theorem d_M_read_34 : decode b_M_read 34 = .ok (.istore_n 2, 1) := dd_M_read 22 (34, .istore_n 2, 1) rfl
theorem d_M_read_35 : decode b_M_read 35 = .ok (.aload_n 0, 1) := dd_M_read 23 (35, .aload_n 0, 1) rfl
theorem d_M_read_36 : decode b_M_read 36 = .ok (.aload_n 0, 1) := dd_M_read 24 (36, .aload_n 0, 1) rfl
theorem d_M_read_37 : decode b_M_read 37 = .ok (.getfield 166, 3) := dd_M_read 25 (37, .getfield 166, 3) rfl
theorem d_M_read_40 : decode b_M_read 40 = .ok (.ifCond .ge 29, 3) := dd_M_read 26 (40, .ifCond .ge 29, 3) rfl
theorem d_M_read_43 : decode b_M_read 43 = .ok (.iload_n 1, 1) := dd_M_read 27 (43, .iload_n 1, 1) rfl
theorem d_M_read_44 : decode b_M_read 44 = .ok (.i2l, 1) := dd_M_read 28 (44, .i2l, 1) rfl
theorem d_M_read_45 : decode b_M_read 45 = .ok (.lconst 1, 1) := dd_M_read 29 (45, .lconst 1, 1) rfl
theorem d_M_read_46 : decode b_M_read 46 = .ok (.ldc2_w 178, 3) := dd_M_read 30 (46, .ldc2_w 178, 3) rfl
theorem d_M_read_49 : decode b_M_read 49 = .ok (.invokestatic 55, 3) := dd_M_read 31 (49, .invokestatic 55, 3) rfl
theorem d_M_read_52 : decode b_M_read 52 = .ok (.ifCond .eq 13, 3) := dd_M_read 32 (52, .ifCond .eq 13, 3) rfl
theorem d_M_read_55 : decode b_M_read 55 = .ok (.iconst 2, 1) := dd_M_read 33 (55, .iconst 2, 1) rfl
theorem d_M_read_56 : decode b_M_read 56 = .ok (.iload_n 2, 1) := dd_M_read 34 (56, .iload_n 2, 1) rfl
theorem d_M_read_57 : decode b_M_read 57 = .ok (.imul, 1) := dd_M_read 35 (57, .imul, 1) rfl
theorem d_M_read_58 : decode b_M_read 58 = .ok (.aload_n 0, 1) := dd_M_read 36 (58, .aload_n 0, 1) rfl
theorem d_M_read_59 : decode b_M_read 59 = .ok (.getfield 46, 3) := dd_M_read 37 (59, .getfield 46, 3) rfl
theorem d_M_read_62 : decode b_M_read 62 = .ok (.if_icmp .le 7, 3) := dd_M_read 38 (62, .if_icmp .le 7, 3) rfl
theorem d_M_read_65 : decode b_M_read 65 = .ok (.iconst 0, 1) := dd_M_read 39 (65, .iconst 0, 1) rfl
theorem d_M_read_66 : decode b_M_read 66 = .ok (.goto 7, 3) := dd_M_read 40 (66, .goto 7, 3) rfl
theorem d_M_read_69 : decode b_M_read 69 = .ok (.aload_n 0, 1) := dd_M_read 41 (69, .aload_n 0, 1) rfl
theorem d_M_read_70 : decode b_M_read 70 = .ok (.getfield 166, 3) := dd_M_read 42 (70, .getfield 166, 3) rfl
theorem d_M_read_73 : decode b_M_read 73 = .ok (.putfield 166, 3) := dd_M_read 43 (73, .putfield 166, 3) rfl
theorem d_M_read_76 : decode b_M_read 76 = .ok (.aload_n 0, 1) := dd_M_read 44 (76, .aload_n 0, 1) rfl
theorem d_M_read_77 : decode b_M_read 77 = .ok (.iconst 0, 1) := dd_M_read 45 (77, .iconst 0, 1) rfl
theorem d_M_read_78 : decode b_M_read 78 = .ok (.iconst 0, 1) := dd_M_read 46 (78, .iconst 0, 1) rfl
theorem d_M_read_79 : decode b_M_read 79 = .ok (.aload_n 0, 1) := dd_M_read 47 (79, .aload_n 0, 1) rfl
theorem d_M_read_80 : decode b_M_read 80 = .ok (.getfield 46, 3) := dd_M_read 48 (80, .getfield 46, 3) rfl
theorem d_M_read_83 : decode b_M_read 83 = .ok (.invokevirtual 141, 3) := dd_M_read 49 (83, .invokevirtual 141, 3) rfl
theorem d_M_read_86 : decode b_M_read 86 = .ok (.aload_n 0, 1) := dd_M_read 50 (86, .aload_n 0, 1) rfl
theorem d_M_read_87 : decode b_M_read 87 = .ok (.getfield 114, 3) := dd_M_read 51 (87, .getfield 114, 3) rfl
theorem d_M_read_90 : decode b_M_read 90 = .ok (.ifCond .le 101, 3) := dd_M_read 52 (90, .ifCond .le 101, 3) rfl
theorem d_M_read_93 : decode b_M_read 93 = .ok (.aload_n 0, 1) := dd_M_read 53 (93, .aload_n 0, 1) rfl
theorem d_M_read_94 : decode b_M_read 94 = .ok (.getfield 166, 3) := dd_M_read 54 (94, .getfield 166, 3) rfl
theorem d_M_read_97 : decode b_M_read 97 = .ok (.ifCond .ge 94, 3) := dd_M_read 55 (97, .ifCond .ge 94, 3) rfl
theorem d_M_read_100 : decode b_M_read 100 = .ok (.aload_n 0, 1) := dd_M_read 56 (100, .aload_n 0, 1) rfl
theorem d_M_read_101 : decode b_M_read 101 = .ok (.dup, 1) := dd_M_read 57 (101, .dup, 1) rfl
theorem d_M_read_102 : decode b_M_read 102 = .ok (.getfield 114, 3) := dd_M_read 58 (102, .getfield 114, 3) rfl
theorem d_M_read_105 : decode b_M_read 105 = .ok (.iconst 1, 1) := dd_M_read 59 (105, .iconst 1, 1) rfl
theorem d_M_read_106 : decode b_M_read 106 = .ok (.isub, 1) := dd_M_read 60 (106, .isub, 1) rfl
theorem d_M_read_107 : decode b_M_read 107 = .ok (.putfield 114, 3) := dd_M_read 61 (107, .putfield 114, 3) rfl
theorem d_M_read_110 : decode b_M_read 110 = .ok (.aload_n 0, 1) := dd_M_read 62 (110, .aload_n 0, 1) rfl
theorem d_M_read_111 : decode b_M_read 111 = .ok (.getfield 25, 3) := dd_M_read 63 (111, .getfield 25, 3) rfl
theorem d_M_read_114 : decode b_M_read 114 = .ok (.iconst 3, 1) := dd_M_read 64 (114, .iconst 3, 1) rfl
theorem d_M_read_115 : decode b_M_read 115 = .ok (.aload_n 0, 1) := dd_M_read 65 (115, .aload_n 0, 1) rfl
theorem d_M_read_116 : decode b_M_read 116 = .ok (.getfield 114, 3) := dd_M_read 66 (116, .getfield 114, 3) rfl
theorem d_M_read_119 : decode b_M_read 119 = .ok (.imul, 1) := dd_M_read 67 (119, .imul, 1) rfl
theorem d_M_read_120 : decode b_M_read 120 = .ok (.iaload, 1) := dd_M_read 68 (120, .iaload, 1) rfl
theorem d_M_read_121 : decode b_M_read 121 = .ok (.istore_n 3, 1) := dd_M_read 69 (121, .istore_n 3, 1) rfl
theorem d_M_read_122 : decode b_M_read 122 = .ok (.aload_n 0, 1) := dd_M_read 70 (122, .aload_n 0, 1) rfl
theorem d_M_read_123 : decode b_M_read 123 = .ok (.getfield 25, 3) := dd_M_read 71 (123, .getfield 25, 3) rfl
theorem d_M_read_126 : decode b_M_read 126 = .ok (.iconst 3, 1) := dd_M_read 72 (126, .iconst 3, 1) rfl
theorem d_M_read_127 : decode b_M_read 127 = .ok (.aload_n 0, 1) := dd_M_read 73 (127, .aload_n 0, 1) rfl
theorem d_M_read_128 : decode b_M_read 128 = .ok (.getfield 114, 3) := dd_M_read 74 (128, .getfield 114, 3) rfl
theorem d_M_read_131 : decode b_M_read 131 = .ok (.imul, 1) := dd_M_read 75 (131, .imul, 1) rfl
theorem d_M_read_132 : decode b_M_read 132 = .ok (.iconst 1, 1) := dd_M_read 76 (132, .iconst 1, 1) rfl
theorem d_M_read_133 : decode b_M_read 133 = .ok (.iadd, 1) := dd_M_read 77 (133, .iadd, 1) rfl
theorem d_M_read_134 : decode b_M_read 134 = .ok (.iaload, 1) := dd_M_read 78 (134, .iaload, 1) rfl
theorem d_M_read_135 : decode b_M_read 135 = .ok (.istore 4, 2) := dd_M_read 79 (135, .istore 4, 2) rfl
theorem d_M_read_137 : decode b_M_read 137 = .ok (.aload_n 0, 1) := dd_M_read 80 (137, .aload_n 0, 1) rfl
theorem d_M_read_138 : decode b_M_read 138 = .ok (.getfield 25, 3) := dd_M_read 81 (138, .getfield 25, 3) rfl
theorem d_M_read_141 : decode b_M_read 141 = .ok (.iconst 3, 1) := dd_M_read 82 (141, .iconst 3, 1) rfl
theorem d_M_read_142 : decode b_M_read 142 = .ok (.aload_n 0, 1) := dd_M_read 83 (142, .aload_n 0, 1) rfl
theorem d_M_read_143 : decode b_M_read 143 = .ok (.getfield 114, 3) := dd_M_read 84 (143, .getfield 114, 3) rfl
theorem d_M_read_146 : decode b_M_read 146 = .ok (.imul, 1) := dd_M_read 85 (146, .imul, 1) rfl
theorem d_M_read_147 : decode b_M_read 147 = .ok (.iconst 2, 1) := dd_M_read 86 (147, .iconst 2, 1) rfl
theorem d_M_read_148 : decode b_M_read 148 = .ok (.iadd, 1) := dd_M_read 87 (148, .iadd, 1) rfl
theorem d_M_read_149 : decode b_M_read 149 = .ok (.iaload, 1) := dd_M_read 88 (149, .iaload, 1) rfl
theorem d_M_read_150 : decode b_M_read 150 = .ok (.istore 5, 2) := dd_M_read 89 (150, .istore 5, 2) rfl
theorem d_M_read_152 : decode b_M_read 152 = .ok (.iload 5, 2) := dd_M_read 90 (152, .iload 5, 2) rfl
theorem d_M_read_154 : decode b_M_read 154 = .ok (.iload_n 2, 1) := dd_M_read 91 (154, .iload_n 2, 1) rfl
theorem d_M_read_155 : decode b_M_read 155 = .ok (.if_icmp .le 24, 3) := dd_M_read 92 (155, .if_icmp .le 24, 3) rfl
theorem d_M_read_158 : decode b_M_read 158 = .ok (.aload_n 0, 1) := dd_M_read 93 (158, .aload_n 0, 1) rfl
theorem d_M_read_159 : decode b_M_read 159 = .ok (.iconst 1, 1) := dd_M_read 94 (159, .iconst 1, 1) rfl
theorem d_M_read_160 : decode b_M_read 160 = .ok (.invokevirtual 175, 3) := dd_M_read 95 (160, .invokevirtual 175, 3) rfl
theorem d_M_read_163 : decode b_M_read 163 = .ok (.iconst 1, 1) := dd_M_read 96 (163, .iconst 1, 1) rfl
theorem d_M_read_164 : decode b_M_read 164 = .ok (.if_icmp .ne 15, 3) := dd_M_read 97 (164, .if_icmp .ne 15, 3) rfl
theorem d_M_read_167 : decode b_M_read 167 = .ok (.aload_n 0, 1) := dd_M_read 98 (167, .aload_n 0, 1) rfl
theorem d_M_read_168 : decode b_M_read 168 = .ok (.iload_n 3, 1) := dd_M_read 99 (168, .iload_n 3, 1) rfl
theorem d_M_read_169 : decode b_M_read 169 = .ok (.iload 4, 2) := dd_M_read 100 (169, .iload 4, 2) rfl
theorem d_M_read_171 : decode b_M_read 171 = .ok (.iload 5, 2) := dd_M_read 101 (171, .iload 5, 2) rfl
theorem d_M_read_173 : decode b_M_read 173 = .ok (.invokevirtual 141, 3) := dd_M_read 102 (173, .invokevirtual 141, 3) rfl
theorem d_M_read_176 : decode b_M_read 176 = .ok (.goto 12, 3) := dd_M_read 103 (176, .goto 12, 3) rfl
theorem d_M_read_179 : decode b_M_read 179 = .ok (.aload_n 0, 1) := dd_M_read 104 (179, .aload_n 0, 1) rfl
theorem d_M_read_180 : decode b_M_read 180 = .ok (.iload_n 3, 1) := dd_M_read 105 (180, .iload_n 3, 1) rfl
theorem d_M_read_181 : decode b_M_read 181 = .ok (.iload 4, 2) := dd_M_read 106 (181, .iload 4, 2) rfl
theorem d_M_read_183 : decode b_M_read 183 = .ok (.iload 5, 2) := dd_M_read 107 (183, .iload 5, 2) rfl
theorem d_M_read_185 : decode b_M_read 185 = .ok (.invokevirtual 180, 3) := dd_M_read 108 (185, .invokevirtual 180, 3) rfl
theorem d_M_read_188 : decode b_M_read 188 = .ok (.goto (-102), 3) := dd_M_read 109 (188, .goto (-102), 3) rfl
theorem d_M_read_191 : decode b_M_read 191 = .ok (.bipush 8, 2) := dd_M_read 110 (191, .bipush 8, 2) rfl
theorem d_M_read_193 : decode b_M_read 193 = .ok (.aload_n 0, 1) := dd_M_read 111 (193, .aload_n 0, 1) rfl
theorem d_M_read_194 : decode b_M_read 194 = .ok (.getfield 163, 3) := dd_M_read 112 (194, .getfield 163, 3) rfl
theorem d_M_read_197 : decode b_M_read 197 = .ok (.imul, 1) := dd_M_read 113 (197, .imul, 1) rfl
theorem d_M_read_198 : decode b_M_read 198 = .ok (.aload_n 0, 1) := dd_M_read 114 (198, .aload_n 0, 1) rfl
theorem d_M_read_199 : decode b_M_read 199 = .ok (.getfield 169, 3) := dd_M_read 115 (199, .getfield 169, 3) rfl
theorem d_M_read_202 : decode b_M_read 202 = .ok (.isub, 1) := dd_M_read 116 (202, .isub, 1) rfl
theorem d_M_read_203 : decode b_M_read 203 = .ok (.bipush 7, 2) := dd_M_read 117 (203, .bipush 7, 2) rfl
theorem d_M_read_205 : decode b_M_read 205 = .ok (.if_icmp .le 7, 3) := dd_M_read 118 (205, .if_icmp .le 7, 3) rfl
theorem d_M_read_208 : decode b_M_read 208 = .ok (.iconst 1, 1) := dd_M_read 119 (208, .iconst 1, 1) rfl
theorem d_M_read_209 : decode b_M_read 209 = .ok (.goto 4, 3) := dd_M_read 120 (209, .goto 4, 3) rfl
theorem d_M_read_212 : decode b_M_read 212 = .ok (.iconst 0, 1) := dd_M_read 121 (212, .iconst 0, 1) rfl
theorem d_M_read_213 : decode b_M_read 213 = .ok (.istore_n 3, 1) := dd_M_read 122 (213, .istore_n 3, 1) rfl
theorem d_M_read_214 : decode b_M_read 214 = .ok (.aload_n 0, 1) := dd_M_read 123 (214, .aload_n 0, 1) rfl
theorem d_M_read_215 : decode b_M_read 215 = .ok (.getfield 169, 3) := dd_M_read 124 (215, .getfield 169, 3) rfl
theorem d_M_read_218 : decode b_M_read 218 = .ok (.istore 4, 2) := dd_M_read 125 (218, .istore 4, 2) rfl
theorem d_M_read_220 : decode b_M_read 220 = .ok (.iload 4, 2) := dd_M_read 126 (220, .iload 4, 2) rfl
theorem d_M_read_222 : decode b_M_read 222 = .ok (.bipush 8, 2) := dd_M_read 127 (222, .bipush 8, 2) rfl
theorem d_M_read_224 : decode b_M_read 224 = .ok (.aload_n 0, 1) := dd_M_read 128 (224, .aload_n 0, 1) rfl
theorem d_M_read_225 : decode b_M_read 225 = .ok (.getfield 163, 3) := dd_M_read 129 (225, .getfield 163, 3) rfl
theorem d_M_read_228 : decode b_M_read 228 = .ok (.imul, 1) := dd_M_read 130 (228, .imul, 1) rfl
theorem d_M_read_229 : decode b_M_read 229 = .ok (.if_icmp .ge 36, 3) := dd_M_read 131 (229, .if_icmp .ge 36, 3) rfl
theorem d_M_read_232 : decode b_M_read 232 = .ok (.aload_n 0, 1) := dd_M_read 132 (232, .aload_n 0, 1) rfl
theorem d_M_read_233 : decode b_M_read 233 = .ok (.getfield 166, 3) := dd_M_read 133 (233, .getfield 166, 3) rfl
theorem d_M_read_236 : decode b_M_read 236 = .ok (.ifCond .ge 29, 3) := dd_M_read 134 (236, .ifCond .ge 29, 3) rfl
theorem d_M_read_239 : decode b_M_read 239 = .ok (.iload_n 3, 1) := dd_M_read 135 (239, .iload_n 3, 1) rfl
theorem d_M_read_240 : decode b_M_read 240 = .ok (.ifCond .ne 13, 3) := dd_M_read 136 (240, .ifCond .ne 13, 3) rfl
theorem d_M_read_243 : decode b_M_read 243 = .ok (.aload_n 0, 1) := dd_M_read 137 (243, .aload_n 0, 1) rfl
theorem d_M_read_244 : decode b_M_read 244 = .ok (.iload 4, 2) := dd_M_read 138 (244, .iload 4, 2) rfl
theorem d_M_read_246 : decode b_M_read 246 = .ok (.invokevirtual 172, 3) := dd_M_read 139 (246, .invokevirtual 172, 3) rfl
theorem d_M_read_249 : decode b_M_read 249 = .ok (.iconst 1, 1) := dd_M_read 140 (249, .iconst 1, 1) rfl
theorem d_M_read_250 : decode b_M_read 250 = .ok (.if_icmp .ne 7, 3) := dd_M_read 141 (250, .if_icmp .ne 7, 3) rfl
theorem d_M_read_253 : decode b_M_read 253 = .ok (.iconst 1, 1) := dd_M_read 142 (253, .iconst 1, 1) rfl
theorem d_M_read_254 : decode b_M_read 254 = .ok (.goto 4, 3) := dd_M_read 143 (254, .goto 4, 3) rfl
theorem d_M_read_257 : decode b_M_read 257 = .ok (.iconst 0, 1) := dd_M_read 144 (257, .iconst 0, 1) rfl
theorem d_M_read_258 : decode b_M_read 258 = .ok (.istore_n 3, 1) := dd_M_read 145 (258, .istore_n 3, 1) rfl
theorem d_M_read_259 : decode b_M_read 259 = .ok (.iinc 4 1, 3) := dd_M_read 146 (259, .iinc 4 1, 3) rfl
theorem d_M_read_262 : decode b_M_read 262 = .ok (.goto (-42), 3) := dd_M_read 147 (262, .goto (-42), 3) rfl
theorem d_M_read_265 : decode b_M_read 265 = .ok (.aload_n 0, 1) := dd_M_read 148 (265, .aload_n 0, 1) rfl
theorem d_M_read_266 : decode b_M_read 266 = .ok (.aload_n 0, 1) := dd_M_read 149 (266, .aload_n 0, 1) rfl
theorem d_M_read_267 : decode b_M_read 267 = .ok (.getfield 166, 3) := dd_M_read 150 (267, .getfield 166, 3) rfl
theorem d_M_read_270 : decode b_M_read 270 = .ok (.ifCond .ge 11, 3) := dd_M_read 151 (270, .ifCond .ge 11, 3) rfl
theorem d_M_read_273 : decode b_M_read 273 = .ok (.iload_n 3, 1) := dd_M_read 152 (273, .iload_n 3, 1) rfl
theorem d_M_read_274 : decode b_M_read 274 = .ok (.ifCond .eq 7, 3) := dd_M_read 153 (274, .ifCond .eq 7, 3) rfl
theorem d_M_read_277 : decode b_M_read 277 = .ok (.iconst 4, 1) := dd_M_read 154 (277, .iconst 4, 1) rfl
theorem d_M_read_278 : decode b_M_read 278 = .ok (.goto 7, 3) := dd_M_read 155 (278, .goto 7, 3) rfl
theorem d_M_read_281 : decode b_M_read 281 = .ok (.aload_n 0, 1) := dd_M_read 156 (281, .aload_n 0, 1) rfl
theorem d_M_read_282 : decode b_M_read 282 = .ok (.getfield 166, 3) := dd_M_read 157 (282, .getfield 166, 3) rfl
theorem d_M_read_285 : decode b_M_read 285 = .ok (.putfield 166, 3) := dd_M_read 158 (285, .putfield 166, 3) rfl
theorem d_M_read_288 : decode b_M_read 288 = .ok (.aload_n 0, 1) := dd_M_read 159 (288, .aload_n 0, 1) rfl
theorem d_M_read_289 : decode b_M_read 289 = .ok (.iconst 0, 1) := dd_M_read 160 (289, .iconst 0, 1) rfl
theorem d_M_read_290 : decode b_M_read 290 = .ok (.putfield 163, 3) := dd_M_read 161 (290, .putfield 163, 3) rfl
theorem d_M_read_293 : decode b_M_read 293 = .ok (.aload_n 0, 1) := dd_M_read 162 (293, .aload_n 0, 1) rfl
theorem d_M_read_294 : decode b_M_read 294 = .ok (.getfield 166, 3) := dd_M_read 163 (294, .getfield 166, 3) rfl
theorem d_M_read_297 : decode b_M_read 297 = .ok (.ifCond .lt 10, 3) := dd_M_read 164 (297, .ifCond .lt 10, 3) rfl
theorem d_M_read_300 : decode b_M_read 300 = .ok (.iconst (-1), 1) := dd_M_read 165 (300, .iconst (-1), 1) rfl
theorem d_M_read_301 : decode b_M_read 301 = .ok (.aload_n 0, 1) := dd_M_read 166 (301, .aload_n 0, 1) rfl
theorem d_M_read_302 : decode b_M_read 302 = .ok (.getfield 166, 3) := dd_M_read 167 (302, .getfield 166, 3) rfl
theorem d_M_read_305 : decode b_M_read 305 = .ok (.isub, 1) := dd_M_read 168 (305, .isub, 1) rfl
theorem d_M_read_306 : decode b_M_read 306 = .ok (.ireturn, 1) := dd_M_read 169 (306, .ireturn, 1) rfl
theorem d_M_read_307 : decode b_M_read 307 = .ok (.aload_n 0, 1) := dd_M_read 170 (307, .aload_n 0, 1) rfl
theorem d_M_read_308 : decode b_M_read 308 = .ok (.invokevirtual 154, 3) := dd_M_read 171 (308, .invokevirtual 154, 3) rfl
theorem d_M_read_311 : decode b_M_read 311 = .ok (.aload_n 0, 1) := dd_M_read 172 (311, .aload_n 0, 1) rfl
theorem d_M_read_312 : decode b_M_read 312 = .ok (.getfield 123, 3) := dd_M_read 173 (312, .getfield 123, 3) rfl
theorem d_M_read_315 : decode b_M_read 315 = .ok (.ireturn, 1) := dd_M_read 174 (315, .ireturn, 1) rfl
def tb_M_decodeBlock : List (Nat × Instr × Nat) := [(0, .aload_n 0, 1), (1, .getfield 16, 3), (4, .bipush 8, 2), (6, .iload_n 1, 1), (7, .imul, 1), (8, .iconst 2, 1), (9, .iadd, 1), (10, .iaload, 1), (11, .istore_n 3, 1), (12, .iload_n 3, 1), (13, .iload_n 2, 1), (14, .imul, 1), (15, .istore 4, 2), (17, .aload_n 0, 1), (18, .getfield 46, 3), (21, .iload_n 2, 1), (22, .imul, 1), (23, .istore 5, 2), (25, .aload_n 0, 1), (26, .iload_n 3, 1), (27, .invokevirtual 69, 3), (30, .istore 6, 2), (32, .aload_n 0, 1), (33, .getfield 16, 3), (36, .bipush 8, 2), (38, .iload_n 1, 1), (39, .imul, 1), (40, .iconst 3, 1), (41, .iadd, 1), (42, .iaload, 1), (43, .istore 7, 2), (45, .iload 7, 2), (47, .iload 6, 2), (49, .irem, 1), (50, .iload_n 3, 1), (51, .imul, 1), (52, .iload_n 2, 1), (53, .imul, 1), (54, .iconst 2, 1), (55, .idiv, 1), (56, .istore 8, 2), (58, .iload 7, 2), (60, .iload 6, 2), (62, .idiv, 1), (63, .iload_n 3, 1), (64, .imul, 1), (65, .iload_n 2, 1), (66, .imul, 1), (67, .iconst 2, 1), (68, .idiv, 1), (69, .istore 9, 2), (71, .iconst 0, 1), (72, .istore 10, 2), (74, .iconst 0, 1), (75, .istore 11, 2), (77, .iload 11, 2), (79, .iload 4, 2), (81, .iload 4, 2), (83, .imul, 1), (84, .if_icmp .ge 175, 3), (87, .aload_n 0, 1), (88, .getfield 16, 3), (91, .bipush 8, 2), (93, .iload_n 1, 1), (94, .imul, 1), (95, .iconst 5, 1), (96, .iadd, 1), (97, .iaload, 1), (98, .aload_n 0, 1), (99, .getfield 34, 3), (102, .iload 5, 2), (104, .iconst 2, 1), (105, .idiv, 1), (106, .iload 8, 2), (108, .iload 9, 2), (110, .iload 4, 2), (112, .aload_n 0, 1), (113, .getfield 16, 3), (116, .bipush 8, 2), (118, .iload_n 1, 1), (119, .imul, 1), (120, .iconst 4, 1), (121, .iadd, 1), (122, .iaload, 1), (123, .iload 11, 2), (125, .invokestatic 73, 3), (128, .invokestatic 87, 3), (131, .aload_n 0, 1), (132, .getfield 16, 3), (135, .bipush 8, 2), (137, .iload_n 1, 1), (138, .imul, 1), (139, .bipush 6, 2), (141, .iadd, 1), (142, .iaload, 1), (143, .iadd, 1), (144, .istore 12, 2), (146, .aload_n 0, 1), (147, .getfield 16, 3), (150, .bipush 8, 2), (152, .iload_n 1, 1), (153, .imul, 1), (154, .iconst 1, 1), (155, .iadd, 1), (156, .iaload, 1), (157, .iload_n 2, 1), (158, .imul, 1), (159, .iload 11, 2), (161, .iload 4, 2), (163, .idiv, 1), (164, .iadd, 1), (165, .iload 5, 2), (167, .imul, 1), (168, .aload_n 0, 1), (169, .getfield 16, 3), (172, .bipush 8, 2), (174, .iload_n 1, 1), (175, .imul, 1), (176, .iaload, 1), (177, .iload_n 2, 1), (178, .imul, 1), (179, .iadd, 1), (180, .iload 11, 2), (182, .iload 4, 2), (184, .irem, 1), (185, .iadd, 1), (186, .istore 13, 2), (188, .aload_n 0, 1), (189, .getfield 28, 3), (192, .iload 13, 2), (194, .iload 12, 2), (196, .i2l, 1), (197, .iconst 0, 1), (198, .sipush 255, 3), (201, .invokestatic 65, 3), (204, .iastore, 1), (205, .aload_n 0, 1), (206, .getfield 28, 3), (209, .iload 13, 2), (211, .iaload, 1), (212, .aload_n 0, 1), (213, .getfield 31, 3), (216, .iload 13, 2), (218, .iaload, 1), (219, .isub, 1), (220, .istore 14, 2), (222, .iload 14, 2), (224, .ifCond .ge 9, 3), (227, .iload 14, 2), (229, .ineg, 1), (230, .goto 5, 3), (233, .iload 14, 2), (235, .istore 14, 2), (237, .iload 14, 2), (239, .iload 10, 2), (241, .if_icmp .le 8, 3), (244, .iload 14, 2), (246, .goto 5, 3), (249, .iload 10, 2), (251, .istore 10, 2), (253, .iinc 11 1, 3), (256, .goto (-179), 3), (259, .iload 10, 2), (261, .ireturn, 1)]
theorem dd_M_decodeBlock : ∀ (i : Nat) (q : Nat × Instr × Nat), tb_M_decodeBlock[i]? = some q → decode b_M_decodeBlock q.1 = .ok (q.2.1, q.2.2) := z_tab (by decide +kernel)
theorem d_M_decodeBlock_0 : decode b_M_decodeBlock 0 = .ok (.aload_n 0, 1) := dd_M_decodeBlock 0 (0, .aload_n 0, 1) rfl
theorem d_M_decodeBlock_1 : decode b_M_decodeBlock 1 = .ok (.getfield 16, 3) := dd_M_decodeBlock 1 (1, .getfield 16, 3) rfl
theorem d_M_decodeBlock_4 : decode b_M_decodeBlock 4 = .ok (.bipush 8, 2) := dd_M_decodeBlock 2 (4, .bipush 8, 2) rfl
theorem d_M_decodeBlock_6 : decode b_M_decodeBlock 6 = .ok (.iload_n 1, 1) := dd_M_decodeBlock 3 (6, .iload_n 1, 1) rfl
theorem d_M_decodeBlock_7 : decode b_M_decodeBlock 7 = .ok (.imul, 1) := dd_M_decodeBlock 4 (7, .imul, 1) rfl
theorem d_M_decodeBlock_8 : decode b_M_decodeBlock 8 = .ok (.iconst 2, 1) := dd_M_decodeBlock 5 (8, .iconst 2, 1) rfl
theorem d_M_decodeBlock_9 : decode b_M_decodeBlock 9 = .ok (.iadd, 1) := dd_M_decodeBlock 6 (9, .iadd, 1) rfl
theorem d_M_decodeBlock_10 : decode b_M_decodeBlock 10 = .ok (.iaload, 1) := dd_M_decodeBlock 7 (10, .iaload, 1) rfl
theorem d_M_decodeBlock_11 : decode b_M_decodeBlock 11 = .ok (.istore_n 3, 1) := dd_M_decodeBlock 8 (11, .istore_n 3, 1) rfl
theorem d_M_decodeBlock_12 : decode b_M_decodeBlock 12 = .ok (.iload_n 3, 1) := dd_M_decodeBlock 9 (12, .iload_n 3, 1) rfl
theorem d_M_decodeBlock_13 : decode b_M_decodeBlock 13 = .ok (.iload_n 2, 1) := dd_M_decodeBlock 10 (13, .iload_n 2, 1) rfl
theorem d_M_decodeBlock_14 : decode b_M_decodeBlock 14 = .ok (.imul, 1) := dd_M_decodeBlock 11 (14, .imul, 1) rfl
theorem d_M_decodeBlock_15 : decode b_M_decodeBlock 15 = .ok (.istore 4, 2) := dd_M_decodeBlock 12 (15, .istore 4, 2) rfl
theorem d_M_decodeBlock_17 : decode b_M_decodeBlock 17 = .ok (.aload_n 0, 1) := dd_M_decodeBlock 13 (17, .aload_n 0, 1) rfl
theorem d_M_decodeBlock_18 : decode b_M_decodeBlock 18 = .ok (.getfield 46, 3) := dd_M_decodeBlock 14 (18, .getfield 46, 3) rfl
theorem d_M_decodeBlock_21 : decode b_M_decodeBlock 21 = .ok (.iload_n 2, 1) := dd_M_decodeBlock 15 (21, .iload_n 2, 1) rfl
theorem d_M_decodeBlock_22 : decode b_M_decodeBlock 22 = .ok (.imul, 1) := dd_M_decodeBlock 16 (22, .imul, 1) rfl
theorem d_M_decodeBlock_23 : decode b_M_decodeBlock 23 = .ok (.istore 5, 2) := dd_M_decodeBlock 17 (23, .istore 5, 2) rfl
theorem d_M_decodeBlock_25 : decode b_M_decodeBlock 25 = .ok (.aload_n 0, 1) := dd_M_decodeBlock 18 (25, .aload_n 0, 1) rfl
theorem d_M_decodeBlock_26 : decode b_M_decodeBlock 26 = .ok (.iload_n 3, 1) := dd_M_decodeBlock 19 (26, .iload_n 3, 1) rfl
theorem d_M_decodeBlock_27 : decode b_M_decodeBlock 27 = .ok (.invokevirtual 69, 3) := dd_M_decodeBlock 20 (27, .invokevirtual 69, 3) rfl
theorem d_M_decodeBlock_30 : decode b_M_decodeBlock 30 = .ok (.istore 6, 2) := dd_M_decodeBlock 21 (30, .istore 6, 2) rfl
theorem d_M_decodeBlock_32 : decode b_M_decodeBlock 32 = .ok (.aload_n 0, 1) := dd_M_decodeBlock 22 (32, .aload_n 0, 1) rfl
theorem d_M_decodeBlock_33 : decode b_M_decodeBlock 33 = .ok (.getfield 16, 3) := dd_M_decodeBlock 23 (33, .getfield 16, 3) rfl
theorem d_M_decodeBlock_36 : decode b_M_decodeBlock 36 = .ok (.bipush 8, 2) := dd_M_decodeBlock 24 (36, .bipush 8, 2) rfl
theorem d_M_decodeBlock_38 : decode b_M_decodeBlock 38 = .ok (.iload_n 1, 1) := dd_M_decodeBlock 25 (38, .iload_n 1, 1) rfl
theorem d_M_decodeBlock_39 : decode b_M_decodeBlock 39 = .ok (.imul, 1) := dd_M_decodeBlock 26 (39, .imul, 1) rfl
theorem d_M_decodeBlock_40 : decode b_M_decodeBlock 40 = .ok (.iconst 3, 1) := dd_M_decodeBlock 27 (40, .iconst 3, 1) rfl
theorem d_M_decodeBlock_41 : decode b_M_decodeBlock 41 = .ok (.iadd, 1) := dd_M_decodeBlock 28 (41, .iadd, 1) rfl
theorem d_M_decodeBlock_42 : decode b_M_decodeBlock 42 = .ok (.iaload, 1) := dd_M_decodeBlock 29 (42, .iaload, 1) rfl
theorem d_M_decodeBlock_43 : decode b_M_decodeBlock 43 = .ok (.istore 7, 2) := dd_M_decodeBlock 30 (43, .istore 7, 2) rfl
theorem d_M_decodeBlock_45 : decode b_M_decodeBlock 45 = .ok (.iload 7, 2) := dd_M_decodeBlock 31 (45, .iload 7, 2) rfl
theorem d_M_decodeBlock_47 : decode b_M_decodeBlock 47 = .ok (.iload 6, 2) := dd_M_decodeBlock 32 (47, .iload 6, 2) rfl
theorem d_M_decodeBlock_49 : decode b_M_decodeBlock 49 = .ok (.irem, 1) := dd_M_decodeBlock 33 (49, .irem, 1) rfl
theorem d_M_decodeBlock_50 : decode b_M_decodeBlock 50 = .ok (.iload_n 3, 1) := dd_M_decodeBlock 34 (50, .iload_n 3, 1) rfl
theorem d_M_decodeBlock_51 : decode b_M_decodeBlock 51 = .ok (.imul, 1) := dd_M_decodeBlock 35 (51, .imul, 1) rfl
theorem d_M_decodeBlock_52 : decode b_M_decodeBlock 52 = .ok (.iload_n 2, 1) := dd_M_decodeBlock 36 (52, .iload_n 2, 1) rfl
theorem d_M_decodeBlock_53 : decode b_M_decodeBlock 53 = .ok (.imul, 1) := dd_M_decodeBlock 37 (53, .imul, 1) rfl
theorem d_M_decodeBlock_54 : decode b_M_decodeBlock 54 = .ok (.iconst 2, 1) := dd_M_decodeBlock 38 (54, .iconst 2, 1) rfl
theorem d_M_decodeBlock_55 : decode b_M_decodeBlock 55 = .ok (.idiv, 1) := dd_M_decodeBlock 39 (55, .idiv, 1) rfl
theorem d_M_decodeBlock_56 : decode b_M_decodeBlock 56 = .ok (.istore 8, 2) := dd_M_decodeBlock 40 (56, .istore 8, 2) rfl
theorem d_M_decodeBlock_58 : decode b_M_decodeBlock 58 = .ok (.iload 7, 2) := dd_M_decodeBlock 41 (58, .iload 7, 2) rfl
theorem d_M_decodeBlock_60 : decode b_M_decodeBlock 60 = .ok (.iload 6, 2) := dd_M_decodeBlock 42 (60, .iload 6, 2) rfl
theorem d_M_decodeBlock_62 : decode b_M_decodeBlock 62 = .ok (.idiv, 1) := dd_M_decodeBlock 43 (62, .idiv, 1) rfl
theorem d_M_decodeBlock_63 : decode b_M_decodeBlock 63 = .ok (.iload_n 3, 1) := dd_M_decodeBlock 44 (63, .iload_n 3, 1) rfl
theorem d_M_decodeBlock_64 : decode b_M_decodeBlock 64 = .ok (.imul, 1) := dd_M_decodeBlock 45 (64, .imul, 1) rfl
theorem d_M_decodeBlock_65 : decode b_M_decodeBlock 65 = .ok (.iload_n 2, 1) := dd_M_decodeBlock 46 (65, .iload_n 2, 1) rfl
theorem d_M_decodeBlock_66 : decode b_M_decodeBlock 66 = .ok (.imul, 1) := dd_M_decodeBlock 47 (66, .imul, 1) rfl
theorem d_M_decodeBlock_67 : decode b_M_decodeBlock 67 = .ok (.iconst 2, 1) := dd_M_decodeBlock 48 (67, .iconst 2, 1) rfl
theorem d_M_decodeBlock_68 : decode b_M_decodeBlock 68 = .ok (.idiv, 1) := dd_M_decodeBlock 49 (68, .idiv, 1) rfl
theorem d_M_decodeBlock_69 : decode b_M_decodeBlock 69 = .ok (.istore 9, 2) := dd_M_decodeBlock 50 (69, .istore 9, 2) rfl
theorem d_M_decodeBlock_71 : decode b_M_decodeBlock 71 = .ok (.iconst 0, 1) := dd_M_decodeBlock 51 (71, .iconst 0, 1) rfl
theorem d_M_decodeBlock_72 : decode b_M_decodeBlock 72 = .ok (.istore 10, 2) := dd_M_decodeBlock 52 (72, .istore 10, 2) rfl
theorem d_M_decodeBlock_74 : decode b_M_decodeBlock 74 = .ok (.iconst 0, 1) := dd_M_decodeBlock 53 (74, .iconst 0, 1) rfl
theorem d_M_decodeBlock_75 : decode b_M_decodeBlock 75 = .ok (.istore 11, 2) := dd_M_decodeBlock 54 (75, .istore 11, 2) rfl
theorem d_M_decodeBlock_77 : decode b_M_decodeBlock 77 = .ok (.iload 11, 2) := dd_M_decodeBlock 55 (77, .iload 11, 2) rfl
theorem d_M_decodeBlock_79 : decode b_M_decodeBlock 79 = .ok (.iload 4, 2) := dd_M_decodeBlock 56 (79, .iload 4, 2) rfl
theorem d_M_decodeBlock_81 : decode b_M_decodeBlock 81 = .ok (.iload 4, 2) := dd_M_decodeBlock 57 (81, .iload 4, 2) rfl
theorem d_M_decodeBlock_83 : decode b_M_decodeBlock 83 = .ok (.imul, 1) := dd_M_decodeBlock 58 (83, .imul, 1) rfl
theorem d_M_decodeBlock_84 : decode b_M_decodeBlock 84 = .ok (.if_icmp .ge 175, 3) := dd_M_decodeBlock 59 (84, .if_icmp .ge 175, 3) rfl
theorem d_M_decodeBlock_87 : decode b_M_decodeBlock 87 = .ok (.aload_n 0, 1) := dd_M_decodeBlock 60 (87, .aload_n 0, 1) rfl
theorem d_M_decodeBlock_88 : decode b_M_decodeBlock 88 = .ok (.getfield 16, 3) := dd_M_decodeBlock 61 (88, .getfield 16, 3) rfl
theorem d_M_decodeBlock_91 : decode b_M_decodeBlock 91 = .ok (.bipush 8, 2) := dd_M_decodeBlock 62 (91, .bipush 8, 2) rfl
theorem d_M_decodeBlock_93 : decode b_M_decodeBlock 93 = .ok (.iload_n 1, 1) := dd_M_decodeBlock 63 (93, .iload_n 1, 1) rfl
theorem d_M_decodeBlock_94 : decode b_M_decodeBlock 94 = .ok (.imul, 1) := dd_M_decodeBlock 64 (94, .imul, 1) rfl
theorem d_M_decodeBlock_95 : decode b_M_decodeBlock 95 = .ok (.iconst 5, 1) := dd_M_decodeBlock 65 (95, .iconst 5, 1) rfl
theorem d_M_decodeBlock_96 : decode b_M_decodeBlock 96 = .ok (.iadd, 1) := dd_M_decodeBlock 66 (96, .iadd, 1) rfl
theorem d_M_decodeBlock_97 : decode b_M_decodeBlock 97 = .ok (.iaload, 1) := dd_M_decodeBlock 67 (97, .iaload, 1) rfl
theorem d_M_decodeBlock_98 : decode b_M_decodeBlock 98 = .ok (.aload_n 0, 1) := dd_M_decodeBlock 68 (98, .aload_n 0, 1) rfl
theorem d_M_decodeBlock_99 : decode b_M_decodeBlock 99 = .ok (.getfield 34, 3) := dd_M_decodeBlock 69 (99, .getfield 34, 3) rfl
theorem d_M_decodeBlock_102 : decode b_M_decodeBlock 102 = .ok (.iload 5, 2) := dd_M_decodeBlock 70 (102, .iload 5, 2) rfl
theorem d_M_decodeBlock_104 : decode b_M_decodeBlock 104 = .ok (.iconst 2, 1) := dd_M_decodeBlock 71 (104, .iconst 2, 1) rfl
theorem d_M_decodeBlock_105 : decode b_M_decodeBlock 105 = .ok (.idiv, 1) := dd_M_decodeBlock 72 (105, .idiv, 1) rfl
theorem d_M_decodeBlock_106 : decode b_M_decodeBlock 106 = .ok (.iload 8, 2) := dd_M_decodeBlock 73 (106, .iload 8, 2) rfl
theorem d_M_decodeBlock_108 : decode b_M_decodeBlock 108 = .ok (.iload 9, 2) := dd_M_decodeBlock 74 (108, .iload 9, 2) rfl
theorem d_M_decodeBlock_110 : decode b_M_decodeBlock 110 = .ok (.iload 4, 2) := dd_M_decodeBlock 75 (110, .iload 4, 2) rfl
theorem d_M_decodeBlock_112 : decode b_M_decodeBlock 112 = .ok (.aload_n 0, 1) := dd_M_decodeBlock 76 (112, .aload_n 0, 1) rfl
theorem d_M_decodeBlock_113 : decode b_M_decodeBlock 113 = .ok (.getfield 16, 3) := dd_M_decodeBlock 77 (113, .getfield 16, 3) rfl
theorem d_M_decodeBlock_116 : decode b_M_decodeBlock 116 = .ok (.bipush 8, 2) := dd_M_decodeBlock 78 (116, .bipush 8, 2) rfl
theorem d_M_decodeBlock_118 : decode b_M_decodeBlock 118 = .ok (.iload_n 1, 1) := dd_M_decodeBlock 79 (118, .iload_n 1, 1) rfl
theorem d_M_decodeBlock_119 : decode b_M_decodeBlock 119 = .ok (.imul, 1) := dd_M_decodeBlock 80 (119, .imul, 1) rfl
theorem d_M_decodeBlock_120 : decode b_M_decodeBlock 120 = .ok (.iconst 4, 1) := dd_M_decodeBlock 81 (120, .iconst 4, 1) rfl
theorem d_M_decodeBlock_121 : decode b_M_decodeBlock 121 = .ok (.iadd, 1) := dd_M_decodeBlock 82 (121, .iadd, 1) rfl
theorem d_M_decodeBlock_122 : decode b_M_decodeBlock 122 = .ok (.iaload, 1) := dd_M_decodeBlock 83 (122, .iaload, 1) rfl
theorem d_M_decodeBlock_123 : decode b_M_decodeBlock 123 = .ok (.iload 11, 2) := dd_M_decodeBlock 84 (123, .iload 11, 2) rfl
theorem d_M_decodeBlock_125 : decode b_M_decodeBlock 125 = .ok (.invokestatic 73, 3) := dd_M_decodeBlock 85 (125, .invokestatic 73, 3) rfl
theorem d_M_decodeBlock_128 : decode b_M_decodeBlock 128 = .ok (.invokestatic 87, 3) := dd_M_decodeBlock 86 (128, .invokestatic 87, 3) rfl
theorem d_M_decodeBlock_131 : decode b_M_decodeBlock 131 = .ok (.aload_n 0, 1) := dd_M_decodeBlock 87 (131, .aload_n 0, 1) rfl
theorem d_M_decodeBlock_132 : decode b_M_decodeBlock 132 = .ok (.getfield 16, 3) := dd_M_decodeBlock 88 (132, .getfield 16, 3) rfl
theorem d_M_decodeBlock_135 : decode b_M_decodeBlock 135 = .ok (.bipush 8, 2) := dd_M_decodeBlock 89 (135, .bipush 8, 2) rfl
theorem d_M_decodeBlock_137 : decode b_M_decodeBlock 137 = .ok (.iload_n 1, 1) := dd_M_decodeBlock 90 (137, .iload_n 1, 1) rfl
theorem d_M_decodeBlock_138 : decode b_M_decodeBlock 138 = .ok (.imul, 1) := dd_M_decodeBlock 91 (138, .imul, 1) rfl
theorem d_M_decodeBlock_139 : decode b_M_decodeBlock 139 = .ok (.bipush 6, 2) := dd_M_decodeBlock 92 (139, .bipush 6, 2) rfl
theorem d_M_decodeBlock_141 : decode b_M_decodeBlock 141 = .ok (.iadd, 1) := dd_M_decodeBlock 93 (141, .iadd, 1) rfl
theorem d_M_decodeBlock_142 : decode b_M_decodeBlock 142 = .ok (.iaload, 1) := dd_M_decodeBlock 94 (142, .iaload, 1) rfl
theorem d_M_decodeBlock_143 : decode b_M_decodeBlock 143 = .ok (.iadd, 1) := dd_M_decodeBlock 95 (143, .iadd, 1) rfl
theorem d_M_decodeBlock_144 : decode b_M_decodeBlock 144 = .ok (.istore 12, 2) := dd_M_decodeBlock 96 (144, .istore 12, 2) rfl
theorem d_M_decodeBlock_146 : decode b_M_decodeBlock 146 = .ok (.aload_n 0, 1) := dd_M_decodeBlock 97 (146, .aload_n 0, 1) rfl
theorem d_M_decodeBlock_147 : decode b_M_decodeBlock 147 = .ok (.getfield 16, 3) := dd_M_decodeBlock 98 (147, .getfield 16, 3) rfl
theorem d_M_decodeBlock_150 : decode b_M_decodeBlock 150 = .ok (.bipush 8, 2) := dd_M_decodeBlock 99 (150, .bipush 8, 2) rfl
theorem d_M_decodeBlock_152 : decode b_M_decodeBlock 152 = .ok (.iload_n 1, 1) := dd_M_decodeBlock 100 (152, .iload_n 1, 1) rfl
theorem d_M_decodeBlock_153 : decode b_M_decodeBlock 153 = .ok (.imul, 1) := dd_M_decodeBlock 101 (153, .imul, 1) rfl
theorem d_M_decodeBlock_154 : decode b_M_decodeBlock 154 = .ok (.iconst 1, 1) := dd_M_decodeBlock 102 (154, .iconst 1, 1) rfl
theorem d_M_decodeBlock_155 : decode b_M_decodeBlock 155 = .ok (.iadd, 1) := dd_M_decodeBlock 103 (155, .iadd, 1) rfl
theorem d_M_decodeBlock_156 : decode b_M_decodeBlock 156 = .ok (.iaload, 1) := dd_M_decodeBlock 104 (156, .iaload, 1) rfl
theorem d_M_decodeBlock_157 : decode b_M_decodeBlock 157 = .ok (.iload_n 2, 1) := dd_M_decodeBlock 105 (157, .iload_n 2, 1) rfl
theorem d_M_decodeBlock_158 : decode b_M_decodeBlock 158 = .ok (.imul, 1) := dd_M_decodeBlock 106 (158, .imul, 1) rfl
theorem d_M_decodeBlock_159 : decode b_M_decodeBlock 159 = .ok (.iload 11, 2) := dd_M_decodeBlock 107 (159, .iload 11, 2) rfl
theorem d_M_decodeBlock_161 : decode b_M_decodeBlock 161 = .ok (.iload 4, 2) := dd_M_decodeBlock 108 (161, .iload 4, 2) rfl
theorem d_M_decodeBlock_163 : decode b_M_decodeBlock 163 = .ok (.idiv, 1) := dd_M_decodeBlock 109 (163, .idiv, 1) rfl
theorem d_M_decodeBlock_164 : decode b_M_decodeBlock 164 = .ok (.iadd, 1) := dd_M_decodeBlock 110 (164, .iadd, 1) rfl
theorem d_M_decodeBlock_165 : decode b_M_decodeBlock 165 = .ok (.iload 5, 2) := dd_M_decodeBlock 111 (165, .iload 5, 2) rfl
theorem d_M_decodeBlock_167 : decode b_M_decodeBlock 167 = .ok (.imul, 1) := dd_M_decodeBlock 112 (167, .imul, 1) rfl
theorem d_M_decodeBlock_168 : decode b_M_decodeBlock 168 = .ok (.aload_n 0, 1) := dd_M_decodeBlock 113 (168, .aload_n 0, 1) rfl
theorem d_M_decodeBlock_169 : decode b_M_decodeBlock 169 = .ok (.getfield 16, 3) := dd_M_decodeBlock 114 (169, .getfield 16, 3) rfl
theorem d_M_decodeBlock_172 : decode b_M_decodeBlock 172 = .ok (.bipush 8, 2) := dd_M_decodeBlock 115 (172, .bipush 8, 2) rfl
theorem d_M_decodeBlock_174 : decode b_M_decodeBlock 174 = .ok (.iload_n 1, 1) := dd_M_decodeBlock 116 (174, .iload_n 1, 1) rfl
theorem d_M_decodeBlock_175 : decode b_M_decodeBlock 175 = .ok (.imul, 1) := dd_M_decodeBlock 117 (175, .imul, 1) rfl
theorem d_M_decodeBlock_176 : decode b_M_decodeBlock 176 = .ok (.iaload, 1) := dd_M_decodeBlock 118 (176, .iaload, 1) rfl
theorem d_M_decodeBlock_177 : decode b_M_decodeBlock 177 = .ok (.iload_n 2, 1) := dd_M_decodeBlock 119 (177, .iload_n 2, 1) rfl
theorem d_M_decodeBlock_178 : decode b_M_decodeBlock 178 = .ok (.imul, 1) := dd_M_decodeBlock 120 (178, .imul, 1) rfl
theorem d_M_decodeBlock_179 : decode b_M_decodeBlock 179 = .ok (.iadd, 1) := dd_M_decodeBlock 121 (179, .iadd, 1) rfl
theorem d_M_decodeBlock_180 : decode b_M_decodeBlock 180 = .ok (.iload 11, 2) := dd_M_decodeBlock 122 (180, .iload 11, 2) rfl
theorem d_M_decodeBlock_182 : decode b_M_decodeBlock 182 = .ok (.iload 4, 2) := dd_M_decodeBlock 123 (182, .iload 4, 2) rfl
theorem d_M_decodeBlock_184 : decode b_M_decodeBlock 184 = .ok (.irem, 1) := dd_M_decodeBlock 124 (184, .irem, 1) rfl
theorem d_M_decodeBlock_185 : decode b_M_decodeBlock 185 = .ok (.iadd, 1) := dd_M_decodeBlock 125 (185, .iadd, 1) rfl
theorem d_M_decodeBlock_186 : decode b_M_decodeBlock 186 = .ok (.istore 13, 2) := dd_M_decodeBlock 126 (186, .istore 13, 2) rfl
theorem d_M_decodeBlock_188 : decode b_M_decodeBlock 188 = .ok (.aload_n 0, 1) := dd_M_decodeBlock 127 (188, .aload_n 0, 1) rfl
theorem d_M_decodeBlock_189 : decode b_M_decodeBlock 189 = .ok (.getfield 28, 3) := dd_M_decodeBlock 128 (189, .getfield 28, 3) rfl
theorem d_M_decodeBlock_192 : decode b_M_decodeBlock 192 = .ok (.iload 13, 2) := dd_M_decodeBlock 129 (192, .iload 13, 2) rfl
theorem d_M_decodeBlock_194 : decode b_M_decodeBlock 194 = .ok (.iload 12, 2) := dd_M_decodeBlock 130 (194, .iload 12, 2) rfl
theorem d_M_decodeBlock_196 : decode b_M_decodeBlock 196 = .ok (.i2l, 1) := dd_M_decodeBlock 131 (196, .i2l, 1) rfl
theorem d_M_decodeBlock_197 : decode b_M_decodeBlock 197 = .ok (.iconst 0, 1) := dd_M_decodeBlock 132 (197, .iconst 0, 1) rfl
theorem d_M_decodeBlock_198 : decode b_M_decodeBlock 198 = .ok (.sipush 255, 3) := dd_M_decodeBlock 133 (198, .sipush 255, 3) rfl
theorem d_M_decodeBlock_201 : decode b_M_decodeBlock 201 = .ok (.invokestatic 65, 3) := dd_M_decodeBlock 134 (201, .invokestatic 65, 3) rfl
theorem d_M_decodeBlock_204 : decode b_M_decodeBlock 204 = .ok (.iastore, 1) := dd_M_decodeBlock 135 (204, .iastore, 1) rfl
theorem d_M_decodeBlock_205 : decode b_M_decodeBlock 205 = .ok (.aload_n 0, 1) := dd_M_decodeBlock 136 (205, .aload_n 0, 1) rfl
theorem d_M_decodeBlock_206 : decode b_M_decodeBlock 206 = .ok (.getfield 28, 3) := dd_M_decodeBlock 137 (206, .getfield 28, 3) rfl
theorem d_M_decodeBlock_209 : decode b_M_decodeBlock 209 = .ok (.iload 13, 2) := dd_M_decodeBlock 138 (209, .iload 13, 2) rfl
theorem d_M_decodeBlock_211 : decode b_M_decodeBlock 211 = .ok (.iaload, 1) := dd_M_decodeBlock 139 (211, .iaload, 1) rfl
theorem d_M_decodeBlock_212 : decode b_M_decodeBlock 212 = .ok (.aload_n 0, 1) := dd_M_decodeBlock 140 (212, .aload_n 0, 1) rfl
theorem d_M_decodeBlock_213 : decode b_M_decodeBlock 213 = .ok (.getfield 31, 3) := dd_M_decodeBlock 141 (213, .getfield 31, 3) rfl
theorem d_M_decodeBlock_216 : decode b_M_decodeBlock 216 = .ok (.iload 13, 2) := dd_M_decodeBlock 142 (216, .iload 13, 2) rfl
theorem d_M_decodeBlock_218 : decode b_M_decodeBlock 218 = .ok (.iaload, 1) := dd_M_decodeBlock 143 (218, .iaload, 1) rfl
theorem d_M_decodeBlock_219 : decode b_M_decodeBlock 219 = .ok (.isub, 1) := dd_M_decodeBlock 144 (219, .isub, 1) rfl
theorem d_M_decodeBlock_220 : decode b_M_decodeBlock 220 = .ok (.istore 14, 2) := dd_M_decodeBlock 145 (220, .istore 14, 2) rfl
theorem d_M_decodeBlock_222 : decode b_M_decodeBlock 222 = .ok (.iload 14, 2) := dd_M_decodeBlock 146 (222, .iload 14, 2) rfl
theorem d_M_decodeBlock_224 : decode b_M_decodeBlock 224 = .ok (.ifCond .ge 9, 3) := dd_M_decodeBlock 147 (224, .ifCond .ge 9, 3) rfl
theorem d_M_decodeBlock_227 : decode b_M_decodeBlock 227 = .ok (.iload 14, 2) := dd_M_decodeBlock 148 (227, .iload 14, 2) rfl
theorem d_M_decodeBlock_229 : decode b_M_decodeBlock 229 = .ok (.ineg, 1) := dd_M_decodeBlock 149 (229, .ineg, 1) rfl
theorem d_M_decodeBlock_230 : decode b_M_decodeBlock 230 = .ok (.goto 5, 3) := dd_M_decodeBlock 150 (230, .goto 5, 3) rfl
theorem d_M_decodeBlock_233 : decode b_M_decodeBlock 233 = .ok (.iload 14, 2) := dd_M_decodeBlock 151 (233, .iload 14, 2) rfl
theorem d_M_decodeBlock_235 : decode b_M_decodeBlock 235 = .ok (.istore 14, 2) := dd_M_decodeBlock 152 (235, .istore 14, 2) rfl
theorem d_M_decodeBlock_237 : decode b_M_decodeBlock 237 = .ok (.iload 14, 2) := dd_M_decodeBlock 153 (237, .iload 14, 2) rfl
theorem d_M_decodeBlock_239 : decode b_M_decodeBlock 239 = .ok (.iload 10, 2) := dd_M_decodeBlock 154 (239, .iload 10, 2) rfl
theorem d_M_decodeBlock_241 : decode b_M_decodeBlock 241 = .ok (.if_icmp .le 8, 3) := dd_M_decodeBlock 155 (241, .if_icmp .le 8, 3) rfl
theorem d_M_decodeBlock_244 : decode b_M_decodeBlock 244 = .ok (.iload 14, 2) := dd_M_decodeBlock 156 (244, .iload 14, 2) rfl
theorem d_M_decodeBlock_246 : decode b_M_decodeBlock 246 = .ok (.goto 5, 3) := dd_M_decodeBlock 157 (246, .goto 5, 3) rfl
theorem d_M_decodeBlock_249 : decode b_M_decodeBlock 249 = .ok (.iload 10, 2) := dd_M_decodeBlock 158 (249, .iload 10, 2) rfl
theorem d_M_decodeBlock_251 : decode b_M_decodeBlock 251 = .ok (.istore 10, 2) := dd_M_decodeBlock 159 (251, .istore 10, 2) rfl
theorem d_M_decodeBlock_253 : decode b_M_decodeBlock 253 = .ok (.iinc 11 1, 3) := dd_M_decodeBlock 160 (253, .iinc 11 1, 3) rfl
theorem d_M_decodeBlock_256 : decode b_M_decodeBlock 256 = .ok (.goto (-179), 3) := dd_M_decodeBlock 161 (256, .goto (-179), 3) rfl
theorem d_M_decodeBlock_259 : decode b_M_decodeBlock 259 = .ok (.iload 10, 2) := dd_M_decodeBlock 162 (259, .iload 10, 2) rfl
theorem d_M_decodeBlock_261 : decode b_M_decodeBlock 261 = .ok (.ireturn, 1) := dd_M_decodeBlock 163 (261, .ireturn, 1) rfl
def tb_M_decode : List (Nat × Instr × Nat) := [(0, .aload_n 0, 1), (1, .iload_n 1, 1), (2, .i2l, 1), (3, .lconst 1, 1), (4, .ldc2_w 183, 3), (7, .invokestatic 55, 3), (10, .ifCond .eq 13, 3), (13, .iload_n 2, 1), (14, .i2l, 1), (15, .lconst 0, 1), (16, .lconst 1, 1), (17, .invokestatic 55, 3), (20, .ifCond .ne 7, 3), (23, .iconst 1, 1), (24, .goto 15, 3), (27, .aload_n 0, 1), (28, .getfield 123, 3), (31, .ifCond .ne 7, 3), (34, .iconst 2, 1), (35, .goto 4, 3), (38, .iconst 0, 1), (39, .putfield 50, 3), (42, .aload_n 0, 1), (43, .getfield 50, 3), (46, .ifCond .le 5, 3), (49, .iconst 0, 1), (50, .ireturn, 1), (51, .aload_n 0, 1), (52, .aload_n 0, 1), (53, .getfield 46, 3), (56, .iload_n 2, 1), (57, .iconst 1, 1), (58, .iadd, 1), (59, .imul, 1), (60, .putfield 185, 3), (63, .iconst 0, 1), (64, .istore_n 3, 1), (65, .iload_n 3, 1), (66, .aload_n 0, 1), (67, .getfield 185, 3), (70, .aload_n 0, 1), (71, .getfield 185, 3), (74, .imul, 1), (75, .if_icmp .ge 18, 3), (78, .aload_n 0, 1), (79, .getfield 28, 3), (82, .iload_n 3, 1), (83, .sipush 128, 3), (86, .iastore, 1), (87, .iinc 3 1, 3), (90, .goto (-25), 3), (93, .iconst 0, 1), (94, .istore_n 3, 1), (95, .iconst 0, 1), (96, .istore 4, 2), (98, .iload 4, 2), (100, .iload_n 1, 1), (101, .if_icmp .ge 105, 3), (104, .aload_n 0, 1), (105, .getfield 28, 3), (108, .aload_n 0, 1), (109, .getfield 185, 3), (112, .aload_n 0, 1), (113, .getfield 34, 3), (116, .invokestatic 133, 3), (119, .iconst 0, 1), (120, .istore 5, 2), (122, .iload 5, 2), (124, .aload_n 0, 1), (125, .getfield 185, 3), (128, .aload_n 0, 1), (129, .getfield 185, 3), (132, .imul, 1), (133, .if_icmp .ge 23, 3), (136, .aload_n 0, 1), (137, .getfield 31, 3), (140, .iload 5, 2), (142, .aload_n 0, 1), (143, .getfield 28, 3), (146, .iload 5, 2), (148, .iaload, 1), (149, .iastore, 1), (150, .iinc 5 1, 3), (153, .goto (-31), 3), (156, .iconst 0, 1), (157, .istore_n 3, 1), (158, .iconst 0, 1), (159, .istore 5, 2), (161, .iload 5, 2), (163, .aload_n 0, 1), (164, .getfield 123, 3), (167, .if_icmp .ge 33, 3), (170, .aload_n 0, 1), (171, .iload 5, 2), (173, .iload_n 2, 1), (174, .iconst 1, 1), (175, .iadd, 1), (176, .invokevirtual 188, 3), (179, .istore 6, 2), (181, .iload 6, 2), (183, .iload_n 3, 1), (184, .if_icmp .le 8, 3), (187, .iload 6, 2), (189, .goto 4, 3), (192, .iload_n 3, 1), (193, .istore_n 3, 1), (194, .iinc 5 1, 3), (197, .goto (-36), 3), (200, .iinc 4 1, 3), (203, .goto (-105), 3), (206, .iload_n 3, 1), (207, .ireturn, 1)]
theorem dd_M_decode : ∀ (i : Nat) (q : Nat × Instr × Nat), tb_M_decode[i]? = some q → decode b_M_decode q.1 = .ok (q.2.1, q.2.2) := z_tab (by decide +kernel)
theorem d_M_decode_0 : decode b_M_decode 0 = .ok (.aload_n 0, 1) := dd_M_decode 0 (0, .aload_n 0, 1) rfl
theorem d_M_decode_1 : decode b_M_decode 1 = .ok (.iload_n 1, 1) := dd_M_decode 1 (1, .iload_n 1, 1) rfl
theorem d_M_decode_2 : decode b_M_decode 2 = .ok (.i2l, 1) := dd_M_decode 2 (2, .i2l, 1) rfl
theorem d_M_decode_3 : decode b_M_decode 3 = .ok (.lconst 1, 1) := dd_M_decode 3 (3, .lconst 1, 1) rfl
theorem d_M_decode_4 : decode b_M_decode 4 = .ok (.ldc2_w 183, 3) := dd_M_decode 4 (4, .ldc2_w 183, 3) rfl
theorem d_M_decode_7 : decode b_M_decode 7 = .ok (.invokestatic 55, 3) := dd_M_decode 5 (7, .invokestatic 55, 3) rfl
theorem d_M_decode_10 : decode b_M_decode 10 = .ok (.ifCond .eq 13, 3) := dd_M_decode 6 (10, .ifCond .eq 13, 3) rfl
theorem d_M_decode_13 : decode b_M_decode 13 = .ok (.iload_n 2, 1) := dd_M_decode 7 (13, .iload_n 2, 1) rfl
theorem d_M_decode_14 : decode b_M_decode 14 = .ok (.i2l, 1) := dd_M_decode 8 (14, .i2l, 1) rfl
theorem d_M_decode_15 : decode b_M_decode 15 = .ok (.lconst 0, 1) := dd_M_decode 9 (15, .lconst 0, 1) rfl
theorem d_M_decode_16 : decode b_M_decode 16 = .ok (.lconst 1, 1) := dd_M_decode 10 (16, .lconst 1, 1) rfl
theorem d_M_decode_17 : decode b_M_decode 17 = .ok (.invokestatic 55, 3) := dd_M_decode 11 (17, .invokestatic 55, 3) rfl
theorem d_M_decode_20 : decode b_M_decode 20 = .ok (.ifCond .ne 7, 3) := dd_M_decode 12 (20, .ifCond .ne 7, 3) rfl
theorem d_M_decode_23 : decode b_M_decode 23 = .ok (.iconst 1, 1) := dd_M_decode 13 (23, .iconst 1, 1) rfl
theorem d_M_decode_24 : decode b_M_decode 24 = .ok (.goto 15, 3) := dd_M_decode 14 (24, .goto 15, 3) rfl
theorem d_M_decode_27 : decode b_M_decode 27 = .ok (.aload_n 0, 1) := dd_M_decode 15 (27, .aload_n 0, 1) rfl
theorem d_M_decode_28 : decode b_M_decode 28 = .ok (.getfield 123, 3) := dd_M_decode 16 (28, .getfield 123, 3) rfl
theorem d_M_decode_31 : decode b_M_decode 31 = .ok (.ifCond .ne 7, 3) := dd_M_decode 17 (31, .ifCond .ne 7, 3) rfl
theorem d_M_decode_34 : decode b_M_decode 34 = .ok (.iconst 2, 1) := dd_M_decode 18 (34, .iconst 2, 1) rfl
theorem d_M_decode_35 : decode b_M_decode 35 = .ok (.goto 4, 3) := dd_M_decode 19 (35, .goto 4, 3) rfl
theorem d_M_decode_38 : decode b_M_decode 38 = .ok (.iconst 0, 1) := dd_M_decode 20 (38, .iconst 0, 1) rfl
theorem d_M_decode_39 : decode b_M_decode 39 = .ok (.putfield 50, 3) := dd_M_decode 21 (39, .putfield 50, 3) rfl
theorem d_M_decode_42 : decode b_M_decode 42 = .ok (.aload_n 0, 1) := dd_M_decode 22 (42, .aload_n 0, 1) rfl
theorem d_M_decode_43 : decode b_M_decode 43 = .ok (.getfield 50, 3) := dd_M_decode 23 (43, .getfield 50, 3) rfl
theorem d_M_decode_46 : decode b_M_decode 46 = .ok (.ifCond .le 5, 3) := dd_M_decode 24 (46, .ifCond .le 5, 3) rfl
theorem d_M_decode_49 : decode b_M_decode 49 = .ok (.iconst 0, 1) := dd_M_decode 25 (49, .iconst 0, 1) rfl
theorem d_M_decode_50 : decode b_M_decode 50 = .ok (.ireturn, 1) := dd_M_decode 26 (50, .ireturn, 1) rfl
theorem d_M_decode_51 : decode b_M_decode 51 = .ok (.aload_n 0, 1) := dd_M_decode 27 (51, .aload_n 0, 1) rfl
theorem d_M_decode_52 : decode b_M_decode 52 = .ok (.aload_n 0, 1) := dd_M_decode 28 (52, .aload_n 0, 1) rfl
theorem d_M_decode_53 : decode b_M_decode 53 = .ok (.getfield 46, 3) := dd_M_decode 29 (53, .getfield 46, 3) rfl
theorem d_M_decode_56 : decode b_M_decode 56 = .ok (.iload_n 2, 1) := dd_M_decode 30 (56, .iload_n 2, 1) rfl
theorem d_M_decode_57 : decode b_M_decode 57 = .ok (.iconst 1, 1) := dd_M_decode 31 (57, .iconst 1, 1) rfl
theorem d_M_decode_58 : decode b_M_decode 58 = .ok (.iadd, 1) := dd_M_decode 32 (58, .iadd, 1) rfl
theorem d_M_decode_59 : decode b_M_decode 59 = .ok (.imul, 1) := dd_M_decode 33 (59, .imul, 1) rfl
theorem d_M_decode_60 : decode b_M_decode 60 = .ok (.putfield 185, 3) := dd_M_decode 34 (60, .putfield 185, 3) rfl
theorem d_M_decode_63 : decode b_M_decode 63 = .ok (.iconst 0, 1) := dd_M_decode 35 (63, .iconst 0, 1) rfl
theorem d_M_decode_64 : decode b_M_decode 64 = .ok (.istore_n 3, 1) := dd_M_decode 36 (64, .istore_n 3, 1) rfl
theorem d_M_decode_65 : decode b_M_decode 65 = .ok (.iload_n 3, 1) := dd_M_decode 37 (65, .iload_n 3, 1) rfl
theorem d_M_decode_66 : decode b_M_decode 66 = .ok (.aload_n 0, 1) := dd_M_decode 38 (66, .aload_n 0, 1) rfl
theorem d_M_decode_67 : decode b_M_decode 67 = .ok (.getfield 185, 3) := dd_M_decode 39 (67, .getfield 185, 3) rfl
theorem d_M_decode_70 : decode b_M_decode 70 = .ok (.aload_n 0, 1) := dd_M_decode 40 (70, .aload_n 0, 1) rfl
theorem d_M_decode_71 : decode b_M_decode 71 = .ok (.getfield 185, 3) := dd_M_decode 41 (71, .getfield 185, 3) rfl
theorem d_M_decode_74 : decode b_M_decode 74 = .ok (.imul, 1) := dd_M_decode 42 (74, .imul, 1) rfl
theorem d_M_decode_75 : decode b_M_decode 75 = .ok (.if_icmp .ge 18, 3) := dd_M_decode 43 (75, .if_icmp .ge 18, 3) rfl
theorem d_M_decode_78 : decode b_M_decode 78 = .ok (.aload_n 0, 1) := dd_M_decode 44 (78, .aload_n 0, 1) rfl
theorem d_M_decode_79 : decode b_M_decode 79 = .ok (.getfield 28, 3) := dd_M_decode 45 (79, .getfield 28, 3) rfl
theorem d_M_decode_82 : decode b_M_decode 82 = .ok (.iload_n 3, 1) := dd_M_decode 46 (82, .iload_n 3, 1) rfl
theorem d_M_decode_83 : decode b_M_decode 83 = .ok (.sipush 128, 3) := dd_M_decode 47 (83, .sipush 128, 3) rfl
theorem d_M_decode_86 : decode b_M_decode 86 = .ok (.iastore, 1) := dd_M_decode 48 (86, .iastore, 1) rfl
theorem d_M_decode_87 : decode b_M_decode 87 = .ok (.iinc 3 1, 3) := dd_M_decode 49 (87, .iinc 3 1, 3) rfl
theorem d_M_decode_90 : decode b_M_decode 90 = .ok (.goto (-25), 3) := dd_M_decode 50 (90, .goto (-25), 3) rfl
theorem d_M_decode_93 : decode b_M_decode 93 = .ok (.iconst 0, 1) := dd_M_decode 51 (93, .iconst 0, 1) rfl
theorem d_M_decode_94 : decode b_M_decode 94 = .ok (.istore_n 3, 1) := dd_M_decode 52 (94, .istore_n 3, 1) rfl
theorem d_M_decode_95 : decode b_M_decode 95 = .ok (.iconst 0, 1) := dd_M_decode 53 (95, .iconst 0, 1) rfl
theorem d_M_decode_96 : decode b_M_decode 96 = .ok (.istore 4, 2) := dd_M_decode 54 (96, .istore 4, 2) rfl
theorem d_M_decode_98 : decode b_M_decode 98 = .ok (.iload 4, 2) := dd_M_decode 55 (98, .iload 4, 2) rfl
theorem d_M_decode_100 : decode b_M_decode 100 = .ok (.iload_n 1, 1) := dd_M_decode 56 (100, .iload_n 1, 1) rfl
theorem d_M_decode_101 : decode b_M_decode 101 = .ok (.if_icmp .ge 105, 3) := dd_M_decode 57 (101, .if_icmp .ge 105, 3) rfl
theorem d_M_decode_104 : decode b_M_decode 104 = .ok (.aload_n 0, 1) := dd_M_decode 58 (104, .aload_n 0, 1) rfl
theorem d_M_decode_105 : decode b_M_decode 105 = .ok (.getfield 28, 3) := dd_M_decode 59 (105, .getfield 28, 3) rfl
theorem d_M_decode_108 : decode b_M_decode 108 = .ok (.aload_n 0, 1) := dd_M_decode 60 (108, .aload_n 0, 1) rfl
theorem d_M_decode_109 : decode b_M_decode 109 = .ok (.getfield 185, 3) := dd_M_decode 61 (109, .getfield 185, 3) rfl
theorem d_M_decode_112 : decode b_M_decode 112 = .ok (.aload_n 0, 1) := dd_M_decode 62 (112, .aload_n 0, 1) rfl
theorem d_M_decode_113 : decode b_M_decode 113 = .ok (.getfield 34, 3) := dd_M_decode 63 (113, .getfield 34, 3) rfl
theorem d_M_decode_116 : decode b_M_decode 116 = .ok (.invokestatic 133, 3) := dd_M_decode 64 (116, .invokestatic 133, 3) rfl
theorem d_M_decode_119 : decode b_M_decode 119 = .ok (.iconst 0, 1) := dd_M_decode 65 (119, .iconst 0, 1) rfl
theorem d_M_decode_120 : decode b_M_decode 120 = .ok (.istore 5, 2) := dd_M_decode 66 (120, .istore 5, 2) rfl
theorem d_M_decode_122 : decode b_M_decode 122 = .ok (.iload 5, 2) := dd_M_decode 67 (122, .iload 5, 2) rfl
theorem d_M_decode_124 : decode b_M_decode 124 = .ok (.aload_n 0, 1) := dd_M_decode 68 (124, .aload_n 0, 1) rfl
theorem d_M_decode_125 : decode b_M_decode 125 = .ok (.getfield 185, 3) := dd_M_decode 69 (125, .getfield 185, 3) rfl
theorem d_M_decode_128 : decode b_M_decode 128 = .ok (.aload_n 0, 1) := dd_M_decode 70 (128, .aload_n 0, 1) rfl
theorem d_M_decode_129 : decode b_M_decode 129 = .ok (.getfield 185, 3) := dd_M_decode 71 (129, .getfield 185, 3) rfl
theorem d_M_decode_132 : decode b_M_decode 132 = .ok (.imul, 1) := dd_M_decode 72 (132, .imul, 1) rfl
theorem d_M_decode_133 : decode b_M_decode 133 = .ok (.if_icmp .ge 23, 3) := dd_M_decode 73 (133, .if_icmp .ge 23, 3) rfl
theorem d_M_decode_136 : decode b_M_decode 136 = .ok (.aload_n 0, 1) := dd_M_decode 74 (136, .aload_n 0, 1) rfl
theorem d_M_decode_137 : decode b_M_decode 137 = .ok (.getfield 31, 3) := dd_M_decode 75 (137, .getfield 31, 3) rfl
theorem d_M_decode_140 : decode b_M_decode 140 = .ok (.iload 5, 2) := dd_M_decode 76 (140, .iload 5, 2) rfl
theorem d_M_decode_142 : decode b_M_decode 142 = .ok (.aload_n 0, 1) := dd_M_decode 77 (142, .aload_n 0, 1) rfl
theorem d_M_decode_143 : decode b_M_decode 143 = .ok (.getfield 28, 3) := dd_M_decode 78 (143, .getfield 28, 3) rfl
theorem d_M_decode_146 : decode b_M_decode 146 = .ok (.iload 5, 2) := dd_M_decode 79 (146, .iload 5, 2) rfl
theorem d_M_decode_148 : decode b_M_decode 148 = .ok (.iaload, 1) := dd_M_decode 80 (148, .iaload, 1) rfl
theorem d_M_decode_149 : decode b_M_decode 149 = .ok (.iastore, 1) := dd_M_decode 81 (149, .iastore, 1) rfl
theorem d_M_decode_150 : decode b_M_decode 150 = .ok (.iinc 5 1, 3) := dd_M_decode 82 (150, .iinc 5 1, 3) rfl
theorem d_M_decode_153 : decode b_M_decode 153 = .ok (.goto (-31), 3) := dd_M_decode 83 (153, .goto (-31), 3) rfl
theorem d_M_decode_156 : decode b_M_decode 156 = .ok (.iconst 0, 1) := dd_M_decode 84 (156, .iconst 0, 1) rfl
theorem d_M_decode_157 : decode b_M_decode 157 = .ok (.istore_n 3, 1) := dd_M_decode 85 (157, .istore_n 3, 1) rfl
theorem d_M_decode_158 : decode b_M_decode 158 = .ok (.iconst 0, 1) := dd_M_decode 86 (158, .iconst 0, 1) rfl
theorem d_M_decode_159 : decode b_M_decode 159 = .ok (.istore 5, 2) := dd_M_decode 87 (159, .istore 5, 2) rfl
theorem d_M_decode_161 : decode b_M_decode 161 = .ok (.iload 5, 2) := dd_M_decode 88 (161, .iload 5, 2) rfl
theorem d_M_decode_163 : decode b_M_decode 163 = .ok (.aload_n 0, 1) := dd_M_decode 89 (163, .aload_n 0, 1) rfl
theorem d_M_decode_164 : decode b_M_decode 164 = .ok (.getfield 123, 3) := dd_M_decode 90 (164, .getfield 123, 3) rfl
theorem d_M_decode_167 : decode b_M_decode 167 = .ok (.if_icmp .ge 33, 3) := dd_M_decode 91 (167, .if_icmp .ge 33, 3) rfl
theorem d_M_decode_170 : decode b_M_decode 170 = .ok (.aload_n 0, 1) := dd_M_decode 92 (170, .aload_n 0, 1) rfl
theorem d_M_decode_171 : decode b_M_decode 171 = .ok (.iload 5, 2) := dd_M_decode 93 (171, .iload 5, 2) rfl
theorem d_M_decode_173 : decode b_M_decode 173 = .ok (.iload_n 2, 1) := dd_M_decode 94 (173, .iload_n 2, 1) rfl
theorem d_M_decode_174 : decode b_M_decode 174 = .ok (.iconst 1, 1) := dd_M_decode 95 (174, .iconst 1, 1) rfl
theorem d_M_decode_175 : decode b_M_decode 175 = .ok (.iadd, 1) := dd_M_decode 96 (175, .iadd, 1) rfl
theorem d_M_decode_176 : decode b_M_decode 176 = .ok (.invokevirtual 188, 3) := dd_M_decode 97 (176, .invokevirtual 188, 3) rfl
theorem d_M_decode_179 : decode b_M_decode 179 = .ok (.istore 6, 2) := dd_M_decode 98 (179, .istore 6, 2) rfl
theorem d_M_decode_181 : decode b_M_decode 181 = .ok (.iload 6, 2) := dd_M_decode 99 (181, .iload 6, 2) rfl
theorem d_M_decode_183 : decode b_M_decode 183 = .ok (.iload_n 3, 1) := dd_M_decode 100 (183, .iload_n 3, 1) rfl
theorem d_M_decode_184 : decode b_M_decode 184 = .ok (.if_icmp .le 8, 3) := dd_M_decode 101 (184, .if_icmp .le 8, 3) rfl
theorem d_M_decode_187 : decode b_M_decode 187 = .ok (.iload 6, 2) := dd_M_decode 102 (187, .iload 6, 2) rfl
theorem d_M_decode_189 : decode b_M_decode 189 = .ok (.goto 4, 3) := dd_M_decode 103 (189, .goto 4, 3) rfl
theorem d_M_decode_192 : decode b_M_decode 192 = .ok (.iload_n 3, 1) := dd_M_decode 104 (192, .iload_n 3, 1) rfl
theorem d_M_decode_193 : decode b_M_decode 193 = .ok (.istore_n 3, 1) := dd_M_decode 105 (193, .istore_n 3, 1) rfl
theorem d_M_decode_194 : decode b_M_decode 194 = .ok (.iinc 5 1, 3) := dd_M_decode 106 (194, .iinc 5 1, 3) rfl
theorem d_M_decode_197 : decode b_M_decode 197 = .ok (.goto (-36), 3) := dd_M_decode 107 (197, .goto (-36), 3) rfl
theorem d_M_decode_200 : decode b_M_decode 200 = .ok (.iinc 4 1, 3) := dd_M_decode 108 (200, .iinc 4 1, 3) rfl
theorem d_M_decode_203 : decode b_M_decode 203 = .ok (.goto (-105), 3) := dd_M_decode 109 (203, .goto (-105), 3) rfl
theorem d_M_decode_206 : decode b_M_decode 206 = .ok (.iload_n 3, 1) := dd_M_decode 110 (206, .iload_n 3, 1) rfl
theorem d_M_decode_207 : decode b_M_decode 207 = .ok (.ireturn, 1) := dd_M_decode 111 (207, .ireturn, 1) rfl
def tb_M_at : List (Nat × Instr × Nat) := [(0, .aload_n 0, 1), (1, .iload_n 1, 1), (2, .i2l, 1), (3, .lconst 0, 1), (4, .aload_n 0, 1), (5, .getfield 185, 3), (8, .iconst 1, 1), (9, .isub, 1), (10, .i2l, 1), (11, .invokestatic 55, 3), (14, .ifCond .eq 23, 3), (17, .iload_n 2, 1), (18, .i2l, 1), (19, .lconst 0, 1), (20, .aload_n 0, 1), (21, .getfield 185, 3), (24, .iconst 1, 1), (25, .isub, 1), (26, .i2l, 1), (27, .invokestatic 55, 3), (30, .ifCond .eq 7, 3), (33, .iconst 0, 1), (34, .goto 4, 3), (37, .iconst 1, 1), (38, .putfield 50, 3), (41, .aload_n 0, 1), (42, .getfield 50, 3), (45, .ifCond .le 7, 3), (48, .iconst 0, 1), (49, .goto 16, 3), (52, .aload_n 0, 1), (53, .getfield 28, 3), (56, .aload_n 0, 1), (57, .getfield 185, 3), (60, .iload_n 2, 1), (61, .imul, 1), (62, .iload_n 1, 1), (63, .iadd, 1), (64, .iaload, 1), (65, .ireturn, 1)]
theorem dd_M_at : ∀ (i : Nat) (q : Nat × Instr × Nat), tb_M_at[i]? = some q → decode b_M_at q.1 = .ok (q.2.1, q.2.2) := z_tab (by decide +kernel)
theorem d_M_at_0 : decode b_M_at 0 = .ok (.aload_n 0, 1) := dd_M_at 0 (0, .aload_n 0, 1) rfl
theorem d_M_at_1 : decode b_M_at 1 = .ok (.iload_n 1, 1) := dd_M_at 1 (1, .iload_n 1, 1) rfl
theorem d_M_at_2 : decode b_M_at 2 = .ok (.i2l, 1) := dd_M_at 2 (2, .i2l, 1) rfl
theorem d_M_at_3 : decode b_M_at 3 = .ok (.lconst 0, 1) := dd_M_at 3 (3, .lconst 0, 1) rfl
theorem d_M_at_4 : decode b_M_at 4 = .ok (.aload_n 0, 1) := dd_M_at 4 (4, .aload_n 0, 1) rfl
theorem d_M_at_5 : decode b_M_at 5 = .ok (.getfield 185, 3) := dd_M_at 5 (5, .getfield 185, 3) rfl
theorem d_M_at_8 : decode b_M_at 8 = .ok (.iconst 1, 1) := dd_M_at 6 (8, .iconst 1, 1) rfl
theorem d_M_at_9 : decode b_M_at 9 = .ok (.isub, 1) := dd_M_at 7 (9, .isub, 1) rfl
theorem d_M_at_10 : decode b_M_at 10 = .ok (.i2l, 1) := dd_M_at 8 (10, .i2l, 1) rfl
theorem d_M_at_11 : decode b_M_at 11 = .ok (.invokestatic 55, 3) := dd_M_at 9 (11, .invokestatic 55, 3) rfl
theorem d_M_at_14 : decode b_M_at 14 = .ok (.ifCond .eq 23, 3) := dd_M_at 10 (14, .ifCond .eq 23, 3) rfl
theorem d_M_at_17 : decode b_M_at 17 = .ok (.iload_n 2, 1) := dd_M_at 11 (17, .iload_n 2, 1) rfl
theorem d_M_at_18 : decode b_M_at 18 = .ok (.i2l, 1) := dd_M_at 12 (18, .i2l, 1) rfl
theorem d_M_at_19 : decode b_M_at 19 = .ok (.lconst 0, 1) := dd_M_at 13 (19, .lconst 0, 1) rfl
theorem d_M_at_20 : decode b_M_at 20 = .ok (.aload_n 0, 1) := dd_M_at 14 (20, .aload_n 0, 1) rfl
theorem d_M_at_21 : decode b_M_at 21 = .ok (.getfield 185, 3) := dd_M_at 15 (21, .getfield 185, 3) rfl
theorem d_M_at_24 : decode b_M_at 24 = .ok (.iconst 1, 1) := dd_M_at 16 (24, .iconst 1, 1) rfl
theorem d_M_at_25 : decode b_M_at 25 = .ok (.isub, 1) := dd_M_at 17 (25, .isub, 1) rfl
theorem d_M_at_26 : decode b_M_at 26 = .ok (.i2l, 1) := dd_M_at 18 (26, .i2l, 1) rfl
theorem d_M_at_27 : decode b_M_at 27 = .ok (.invokestatic 55, 3) := dd_M_at 19 (27, .invokestatic 55, 3) rfl
theorem d_M_at_30 : decode b_M_at 30 = .ok (.ifCond .eq 7, 3) := dd_M_at 20 (30, .ifCond .eq 7, 3) rfl
theorem d_M_at_33 : decode b_M_at 33 = .ok (.iconst 0, 1) := dd_M_at 21 (33, .iconst 0, 1) rfl
theorem d_M_at_34 : decode b_M_at 34 = .ok (.goto 4, 3) := dd_M_at 22 (34, .goto 4, 3) rfl
theorem d_M_at_37 : decode b_M_at 37 = .ok (.iconst 1, 1) := dd_M_at 23 (37, .iconst 1, 1) rfl
theorem d_M_at_38 : decode b_M_at 38 = .ok (.putfield 50, 3) := dd_M_at 24 (38, .putfield 50, 3) rfl
theorem d_M_at_41 : decode b_M_at 41 = .ok (.aload_n 0, 1) := dd_M_at 25 (41, .aload_n 0, 1) rfl
theorem d_M_at_42 : decode b_M_at 42 = .ok (.getfield 50, 3) := dd_M_at 26 (42, .getfield 50, 3) rfl
theorem d_M_at_45 : decode b_M_at 45 = .ok (.ifCond .le 7, 3) := dd_M_at 27 (45, .ifCond .le 7, 3) rfl
theorem d_M_at_48 : decode b_M_at 48 = .ok (.iconst 0, 1) := dd_M_at 28 (48, .iconst 0, 1) rfl
theorem d_M_at_49 : decode b_M_at 49 = .ok (.goto 16, 3) := dd_M_at 29 (49, .goto 16, 3) rfl
theorem d_M_at_52 : decode b_M_at 52 = .ok (.aload_n 0, 1) := dd_M_at 30 (52, .aload_n 0, 1) rfl
theorem d_M_at_53 : decode b_M_at 53 = .ok (.getfield 28, 3) := dd_M_at 31 (53, .getfield 28, 3) rfl
theorem d_M_at_56 : decode b_M_at 56 = .ok (.aload_n 0, 1) := dd_M_at 32 (56, .aload_n 0, 1) rfl
theorem d_M_at_57 : decode b_M_at 57 = .ok (.getfield 185, 3) := dd_M_at 33 (57, .getfield 185, 3) rfl
theorem d_M_at_60 : decode b_M_at 60 = .ok (.iload_n 2, 1) := dd_M_at 34 (60, .iload_n 2, 1) rfl
theorem d_M_at_61 : decode b_M_at 61 = .ok (.imul, 1) := dd_M_at 35 (61, .imul, 1) rfl
theorem d_M_at_62 : decode b_M_at 62 = .ok (.iload_n 1, 1) := dd_M_at 36 (62, .iload_n 1, 1) rfl
theorem d_M_at_63 : decode b_M_at 63 = .ok (.iadd, 1) := dd_M_at 37 (63, .iadd, 1) rfl
theorem d_M_at_64 : decode b_M_at 64 = .ok (.iaload, 1) := dd_M_at 38 (64, .iaload, 1) rfl
theorem d_M_at_65 : decode b_M_at 65 = .ok (.ireturn, 1) := dd_M_at 39 (65, .ireturn, 1) rfl
def tb_M_missed : List (Nat × Instr × Nat) := [(0, .aload_n 0, 1), (1, .aload_n 0, 1), (2, .getfield 185, 3), (5, .aload_n 0, 1), (6, .getfield 46, 3), (9, .if_icmp .ne 7, 3), (12, .iconst 0, 1), (13, .goto 4, 3), (16, .iconst 1, 1), (17, .putfield 50, 3), (20, .lconst 0, 1), (21, .lstore_n 1, 1), (22, .iconst 0, 1), (23, .istore_n 3, 1), (24, .iload_n 3, 1), (25, .aload_n 0, 1), (26, .getfield 46, 3), (29, .aload_n 0, 1), (30, .getfield 46, 3), (33, .imul, 1), (34, .if_icmp .ge 40, 3), (37, .aload_n 0, 1), (38, .getfield 50, 3), (41, .ifCond .ne 33, 3), (44, .aload_n 0, 1), (45, .getfield 7, 3), (48, .iload_n 3, 1), (49, .iaload, 1), (50, .aload_n 0, 1), (51, .getfield 28, 3), (54, .iload_n 3, 1), (55, .iaload, 1), (56, .isub, 1), (57, .i2l, 1), (58, .lstore 4, 2), (60, .lload_n 1, 1), (61, .lload 4, 2), (63, .lload 4, 2), (65, .lmul, 1), (66, .ladd, 1), (67, .lstore_n 1, 1), (68, .iinc 3 1, 3), (71, .goto (-47), 3), (74, .lload_n 1, 1), (75, .lreturn, 1)]
theorem dd_M_missed : ∀ (i : Nat) (q : Nat × Instr × Nat), tb_M_missed[i]? = some q → decode b_M_missed q.1 = .ok (q.2.1, q.2.2) := z_tab (by decide +kernel)
theorem d_M_missed_0 : decode b_M_missed 0 = .ok (.aload_n 0, 1) := dd_M_missed 0 (0, .aload_n 0, 1) rfl
theorem d_M_missed_1 : decode b_M_missed 1 = .ok (.aload_n 0, 1) := dd_M_missed 1 (1, .aload_n 0, 1) rfl
theorem d_M_missed_2 : decode b_M_missed 2 = .ok (.getfield 185, 3) := dd_M_missed 2 (2, .getfield 185, 3) rfl
theorem d_M_missed_5 : decode b_M_missed 5 = .ok (.aload_n 0, 1) := dd_M_missed 3 (5, .aload_n 0, 1) rfl
theorem d_M_missed_6 : decode b_M_missed 6 = .ok (.getfield 46, 3) := dd_M_missed 4 (6, .getfield 46, 3) rfl
theorem d_M_missed_9 : decode b_M_missed 9 = .ok (.if_icmp .ne 7, 3) := dd_M_missed 5 (9, .if_icmp .ne 7, 3) rfl
theorem d_M_missed_12 : decode b_M_missed 12 = .ok (.iconst 0, 1) := dd_M_missed 6 (12, .iconst 0, 1) rfl
theorem d_M_missed_13 : decode b_M_missed 13 = .ok (.goto 4, 3) := dd_M_missed 7 (13, .goto 4, 3) rfl
theorem d_M_missed_16 : decode b_M_missed 16 = .ok (.iconst 1, 1) := dd_M_missed 8 (16, .iconst 1, 1) rfl
theorem d_M_missed_17 : decode b_M_missed 17 = .ok (.putfield 50, 3) := dd_M_missed 9 (17, .putfield 50, 3) rfl
theorem d_M_missed_20 : decode b_M_missed 20 = .ok (.lconst 0, 1) := dd_M_missed 10 (20, .lconst 0, 1) rfl
theorem d_M_missed_21 : decode b_M_missed 21 = .ok (.lstore_n 1, 1) := dd_M_missed 11 (21, .lstore_n 1, 1) rfl
theorem d_M_missed_22 : decode b_M_missed 22 = .ok (.iconst 0, 1) := dd_M_missed 12 (22, .iconst 0, 1) rfl
theorem d_M_missed_23 : decode b_M_missed 23 = .ok (.istore_n 3, 1) := dd_M_missed 13 (23, .istore_n 3, 1) rfl
theorem d_M_missed_24 : decode b_M_missed 24 = .ok (.iload_n 3, 1) := dd_M_missed 14 (24, .iload_n 3, 1) rfl
theorem d_M_missed_25 : decode b_M_missed 25 = .ok (.aload_n 0, 1) := dd_M_missed 15 (25, .aload_n 0, 1) rfl
theorem d_M_missed_26 : decode b_M_missed 26 = .ok (.getfield 46, 3) := dd_M_missed 16 (26, .getfield 46, 3) rfl
theorem d_M_missed_29 : decode b_M_missed 29 = .ok (.aload_n 0, 1) := dd_M_missed 17 (29, .aload_n 0, 1) rfl
theorem d_M_missed_30 : decode b_M_missed 30 = .ok (.getfield 46, 3) := dd_M_missed 18 (30, .getfield 46, 3) rfl
theorem d_M_missed_33 : decode b_M_missed 33 = .ok (.imul, 1) := dd_M_missed 19 (33, .imul, 1) rfl
theorem d_M_missed_34 : decode b_M_missed 34 = .ok (.if_icmp .ge 40, 3) := dd_M_missed 20 (34, .if_icmp .ge 40, 3) rfl
theorem d_M_missed_37 : decode b_M_missed 37 = .ok (.aload_n 0, 1) := dd_M_missed 21 (37, .aload_n 0, 1) rfl
theorem d_M_missed_38 : decode b_M_missed 38 = .ok (.getfield 50, 3) := dd_M_missed 22 (38, .getfield 50, 3) rfl
theorem d_M_missed_41 : decode b_M_missed 41 = .ok (.ifCond .ne 33, 3) := dd_M_missed 23 (41, .ifCond .ne 33, 3) rfl
theorem d_M_missed_44 : decode b_M_missed 44 = .ok (.aload_n 0, 1) := dd_M_missed 24 (44, .aload_n 0, 1) rfl
theorem d_M_missed_45 : decode b_M_missed 45 = .ok (.getfield 7, 3) := dd_M_missed 25 (45, .getfield 7, 3) rfl
theorem d_M_missed_48 : decode b_M_missed 48 = .ok (.iload_n 3, 1) := dd_M_missed 26 (48, .iload_n 3, 1) rfl
theorem d_M_missed_49 : decode b_M_missed 49 = .ok (.iaload, 1) := dd_M_missed 27 (49, .iaload, 1) rfl
theorem d_M_missed_50 : decode b_M_missed 50 = .ok (.aload_n 0, 1) := dd_M_missed 28 (50, .aload_n 0, 1) rfl
theorem d_M_missed_51 : decode b_M_missed 51 = .ok (.getfield 28, 3) := dd_M_missed 29 (51, .getfield 28, 3) rfl
theorem d_M_missed_54 : decode b_M_missed 54 = .ok (.iload_n 3, 1) := dd_M_missed 30 (54, .iload_n 3, 1) rfl
theorem d_M_missed_55 : decode b_M_missed 55 = .ok (.iaload, 1) := dd_M_missed 31 (55, .iaload, 1) rfl
theorem d_M_missed_56 : decode b_M_missed 56 = .ok (.isub, 1) := dd_M_missed 32 (56, .isub, 1) rfl
theorem d_M_missed_57 : decode b_M_missed 57 = .ok (.i2l, 1) := dd_M_missed 33 (57, .i2l, 1) rfl
theorem d_M_missed_58 : decode b_M_missed 58 = .ok (.lstore 4, 2) := dd_M_missed 34 (58, .lstore 4, 2) rfl
theorem d_M_missed_60 : decode b_M_missed 60 = .ok (.lload_n 1, 1) := dd_M_missed 35 (60, .lload_n 1, 1) rfl
theorem d_M_missed_61 : decode b_M_missed 61 = .ok (.lload 4, 2) := dd_M_missed 36 (61, .lload 4, 2) rfl
theorem d_M_missed_63 : decode b_M_missed 63 = .ok (.lload 4, 2) := dd_M_missed 37 (63, .lload 4, 2) rfl
theorem d_M_missed_65 : decode b_M_missed 65 = .ok (.lmul, 1) := dd_M_missed 38 (65, .lmul, 1) rfl
theorem d_M_missed_66 : decode b_M_missed 66 = .ok (.ladd, 1) := dd_M_missed 39 (66, .ladd, 1) rfl
theorem d_M_missed_67 : decode b_M_missed 67 = .ok (.lstore_n 1, 1) := dd_M_missed 40 (67, .lstore_n 1, 1) rfl
theorem d_M_missed_68 : decode b_M_missed 68 = .ok (.iinc 3 1, 3) := dd_M_missed 41 (68, .iinc 3 1, 3) rfl
theorem d_M_missed_71 : decode b_M_missed 71 = .ok (.goto (-47), 3) := dd_M_missed 42 (71, .goto (-47), 3) rfl
theorem d_M_missed_74 : decode b_M_missed 74 = .ok (.lload_n 1, 1) := dd_M_missed 43 (74, .lload_n 1, 1) rfl
theorem d_M_missed_75 : decode b_M_missed 75 = .ok (.lreturn, 1) := dd_M_missed 44 (75, .lreturn, 1) rfl
