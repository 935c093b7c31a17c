def tb_F_encodeQuarters : List (Nat × Instr × Nat) := [(0, .iload_n 3, 1), (1, .iconst 2, 1), (2, .if_icmp .ge 4, 3), (5, .return_, 1), (6, .iconst 0, 1), (7, .istore 6, 2), (9, .iload 6, 2), (11, .iconst 4, 1), (12, .if_icmp .ge 36, 3), (15, .aload_n 0, 1), (16, .iload_n 1, 1), (17, .iload 6, 2), (19, .invokestatic 215, 3), (22, .iload_n 3, 1), (23, .imul, 1), (24, .iadd, 1), (25, .iload_n 2, 1), (26, .iload 6, 2), (28, .invokestatic 218, 3), (31, .iload_n 3, 1), (32, .imul, 1), (33, .iadd, 1), (34, .iload_n 3, 1), (35, .iload 4, 2), (37, .iload 5, 2), (39, .invokevirtual 221, 3), (42, .iinc 6 1, 3), (45, .goto (-36), 3), (48, .return_, 1)]
theorem dd_F_encodeQuarters : ∀ (i : Nat) (q : Nat × Instr × Nat), tb_F_encodeQuarters[i]? = some q → decode b_F_encodeQuarters q.1 = .ok (q.2.1, q.2.2) := z_tab (by decide +kernel)
theorem d_F_encodeQuarters_0 : decode b_F_encodeQuarters 0 = .ok (.iload_n 3, 1) := dd_F_encodeQuarters 0 (0, .iload_n 3, 1) rfl
theorem d_F_encodeQuarters_1 : decode b_F_encodeQuarters 1 = .ok (.iconst 2, 1) := dd_F_encodeQuarters 1 (1, .iconst 2, 1) rfl
theorem d_F_encodeQuarters_2 : decode b_F_encodeQuarters 2 = .ok (.if_icmp .ge 4, 3) := dd_F_encodeQuarters 2 (2, .if_icmp .ge 4, 3) rfl
theorem d_F_encodeQuarters_5 : decode b_F_encodeQuarters 5 = .ok (.return_, 1) := dd_F_encodeQuarters 3 (5, .return_, 1) rfl
theorem d_F_encodeQuarters_6 : decode b_F_encodeQuarters 6 = .ok (.iconst 0, 1) := dd_F_encodeQuarters 4 (6, .iconst 0, 1) rfl
theorem d_F_encodeQuarters_7 : decode b_F_encodeQuarters 7 = .ok (.istore 6, 2) := dd_F_encodeQuarters 5 (7, .istore 6, 2) rfl
theorem d_F_encodeQuarters_9 : decode b_F_encodeQuarters 9 = .ok (.iload 6, 2) := dd_F_encodeQuarters 6 (9, .iload 6, 2) rfl
theorem d_F_encodeQuarters_11 : decode b_F_encodeQuarters 11 = .ok (.iconst 4, 1) := dd_F_encodeQuarters 7 (11, .iconst 4, 1) rfl
theorem d_F_encodeQuarters_12 : decode b_F_encodeQuarters 12 = .ok (.if_icmp .ge 36, 3) := dd_F_encodeQuarters 8 (12, .if_icmp .ge 36, 3) rfl
theorem d_F_encodeQuarters_15 : decode b_F_encodeQuarters 15 = .ok (.aload_n 0, 1) := dd_F_encodeQuarters 9 (15, .aload_n 0, 1) rfl
theorem d_F_encodeQuarters_16 : decode b_F_encodeQuarters 16 = .ok (.iload_n 1, 1) := dd_F_encodeQuarters 10 (16, .iload_n 1, 1) rfl
theorem d_F_encodeQuarters_17 : decode b_F_encodeQuarters 17 = .ok (.iload 6, 2) := dd_F_encodeQuarters 11 (17, .iload 6, 2) rfl
theorem d_F_encodeQuarters_19 : decode b_F_encodeQuarters 19 = .ok (.invokestatic 215, 3) := dd_F_encodeQuarters 12 (19, .invokestatic 215, 3) rfl
theorem d_F_encodeQuarters_22 : decode b_F_encodeQuarters 22 = .ok (.iload_n 3, 1) := dd_F_encodeQuarters 13 (22, .iload_n 3, 1) rfl
theorem d_F_encodeQuarters_23 : decode b_F_encodeQuarters 23 = .ok (.imul, 1) := dd_F_encodeQuarters 14 (23, .imul, 1) rfl
theorem d_F_encodeQuarters_24 : decode b_F_encodeQuarters 24 = .ok (.iadd, 1) := dd_F_encodeQuarters 15 (24, .iadd, 1) rfl
theorem d_F_encodeQuarters_25 : decode b_F_encodeQuarters 25 = .ok (.iload_n 2, 1) := dd_F_encodeQuarters 16 (25, .iload_n 2, 1) rfl
theorem d_F_encodeQuarters_26 : decode b_F_encodeQuarters 26 = .ok (.iload 6, 2) := dd_F_encodeQuarters 17 (26, .iload 6, 2) rfl
theorem d_F_encodeQuarters_28 : decode b_F_encodeQuarters 28 = .ok (.invokestatic 218, 3) := dd_F_encodeQuarters 18 (28, .invokestatic 218, 3) rfl
theorem d_F_encodeQuarters_31 : decode b_F_encodeQuarters 31 = .ok (.iload_n 3, 1) := dd_F_encodeQuarters 19 (31, .iload_n 3, 1) rfl
theorem d_F_encodeQuarters_32 : decode b_F_encodeQuarters 32 = .ok (.imul, 1) := dd_F_encodeQuarters 20 (32, .imul, 1) rfl
theorem d_F_encodeQuarters_33 : decode b_F_encodeQuarters 33 = .ok (.iadd, 1) := dd_F_encodeQuarters 21 (33, .iadd, 1) rfl
theorem d_F_encodeQuarters_34 : decode b_F_encodeQuarters 34 = .ok (.iload_n 3, 1) := dd_F_encodeQuarters 22 (34, .iload_n 3, 1) rfl
theorem d_F_encodeQuarters_35 : decode b_F_encodeQuarters 35 = .ok (.iload 4, 2) := dd_F_encodeQuarters 23 (35, .iload 4, 2) rfl
theorem d_F_encodeQuarters_37 : decode b_F_encodeQuarters 37 = .ok (.iload 5, 2) := dd_F_encodeQuarters 24 (37, .iload 5, 2) rfl
theorem d_F_encodeQuarters_39 : decode b_F_encodeQuarters 39 = .ok (.invokevirtual 221, 3) := dd_F_encodeQuarters 25 (39, .invokevirtual 221, 3) rfl
theorem d_F_encodeQuarters_42 : decode b_F_encodeQuarters 42 = .ok (.iinc 6 1, 3) := dd_F_encodeQuarters 26 (42, .iinc 6 1, 3) rfl
theorem d_F_encodeQuarters_45 : decode b_F_encodeQuarters 45 = .ok (.goto (-36), 3) := dd_F_encodeQuarters 27 (45, .goto (-36), 3) rfl
theorem d_F_encodeQuarters_48 : decode b_F_encodeQuarters 48 = .ok (.return_, 1) := dd_F_encodeQuarters 28 (48, .return_, 1) rfl
def tb_F_encodeSquare : List (Nat × Instr × Nat) := [(0, .aload_n 0, 1), (1, .getfield 51, 3), (4, .iload_n 1, 1), (5, .iload_n 2, 1), (6, .iload_n 3, 1), (7, .invokevirtual 224, 3), (10, .iload_n 3, 1), (11, .iload 4, 2), (13, .if_icmp .le 22, 3), (16, .aload_n 0, 1), (17, .getfield 51, 3), (20, .getfield 227, 3), (23, .getfield 230, 3), (26, .iload 5, 2), (28, .if_icmp .le 7, 3), (31, .iconst 1, 1), (32, .goto 4, 3), (35, .iconst 0, 1), (36, .istore 6, 2), (38, .iload_n 3, 1), (39, .iload 4, 2), (41, .if_icmp .le 21, 3), (44, .aload_n 0, 1), (45, .getfield 74, 3), (48, .iload 6, 2), (50, .ifCond .eq 7, 3), (53, .iconst 1, 1), (54, .goto 4, 3), (57, .iconst 0, 1), (58, .iconst 1, 1), (59, .invokevirtual 129, 3), (62, .iload 6, 2), (64, .ifCond .eq 19, 3), (67, .aload_n 0, 1), (68, .iload_n 1, 1), (69, .iload_n 2, 1), (70, .iload_n 3, 1), (71, .iconst 2, 1), (72, .idiv, 1), (73, .iload 4, 2), (75, .iload 5, 2), (77, .invokevirtual 132, 3), (80, .goto 32, 3), (83, .aload_n 0, 1), (84, .getfield 60, 3), (87, .iload_n 1, 1), (88, .iload_n 2, 1), (89, .iload_n 3, 1), (90, .aload_n 0, 1), (91, .getfield 51, 3), (94, .getfield 227, 3), (97, .invokevirtual 233, 3), (100, .aload_n 0, 1), (101, .iload_n 3, 1), (102, .aload_n 0, 1), (103, .getfield 51, 3), (106, .getfield 227, 3), (109, .invokevirtual 237, 3), (112, .return_, 1)]
theorem dd_F_encodeSquare : ∀ (i : Nat) (q : Nat × Instr × Nat), tb_F_encodeSquare[i]? = some q → decode b_F_encodeSquare q.1 = .ok (q.2.1, q.2.2) := z_tab (by decide +kernel)
theorem d_F_encodeSquare_0 : decode b_F_encodeSquare 0 = .ok (.aload_n 0, 1) := dd_F_encodeSquare 0 (0, .aload_n 0, 1) rfl
theorem d_F_encodeSquare_1 : decode b_F_encodeSquare 1 = .ok (.getfield 51, 3) := dd_F_encodeSquare 1 (1, .getfield 51, 3) rfl
theorem d_F_encodeSquare_4 : decode b_F_encodeSquare 4 = .ok (.iload_n 1, 1) := dd_F_encodeSquare 2 (4, .iload_n 1, 1) rfl
theorem d_F_encodeSquare_5 : decode b_F_encodeSquare 5 = .ok (.iload_n 2, 1) := dd_F_encodeSquare 3 (5, .iload_n 2, 1) rfl
theorem d_F_encodeSquare_6 : decode b_F_encodeSquare 6 = .ok (.iload_n 3, 1) := dd_F_encodeSquare 4 (6, .iload_n 3, 1) rfl
theorem d_F_encodeSquare_7 : decode b_F_encodeSquare 7 = .ok (.invokevirtual 224, 3) := dd_F_encodeSquare 5 (7, .invokevirtual 224, 3) rfl
theorem d_F_encodeSquare_10 : decode b_F_encodeSquare 10 = .ok (.iload_n 3, 1) := dd_F_encodeSquare 6 (10, .iload_n 3, 1) rfl
theorem d_F_encodeSquare_11 : decode b_F_encodeSquare 11 = .ok (.iload 4, 2) := dd_F_encodeSquare 7 (11, .iload 4, 2) rfl
theorem d_F_encodeSquare_13 : decode b_F_encodeSquare 13 = .ok (.if_icmp .le 22, 3) := dd_F_encodeSquare 8 (13, .if_icmp .le 22, 3) rfl
theorem d_F_encodeSquare_16 : decode b_F_encodeSquare 16 = .ok (.aload_n 0, 1) := dd_F_encodeSquare 9 (16, .aload_n 0, 1) rfl
theorem d_F_encodeSquare_17 : decode b_F_encodeSquare 17 = .ok (.getfield 51, 3) := dd_F_encodeSquare 10 (17, .getfield 51, 3) rfl
theorem d_F_encodeSquare_20 : decode b_F_encodeSquare 20 = .ok (.getfield 227, 3) := dd_F_encodeSquare 11 (20, .getfield 227, 3) rfl
theorem d_F_encodeSquare_23 : decode b_F_encodeSquare 23 = .ok (.getfield 230, 3) := dd_F_encodeSquare 12 (23, .getfield 230, 3) rfl
theorem d_F_encodeSquare_26 : decode b_F_encodeSquare 26 = .ok (.iload 5, 2) := dd_F_encodeSquare 13 (26, .iload 5, 2) rfl
theorem d_F_encodeSquare_28 : decode b_F_encodeSquare 28 = .ok (.if_icmp .le 7, 3) := dd_F_encodeSquare 14 (28, .if_icmp .le 7, 3) rfl
theorem d_F_encodeSquare_31 : decode b_F_encodeSquare 31 = .ok (.iconst 1, 1) := dd_F_encodeSquare 15 (31, .iconst 1, 1) rfl
theorem d_F_encodeSquare_32 : decode b_F_encodeSquare 32 = .ok (.goto 4, 3) := dd_F_encodeSquare 16 (32, .goto 4, 3) rfl
theorem d_F_encodeSquare_35 : decode b_F_encodeSquare 35 = .ok (.iconst 0, 1) := dd_F_encodeSquare 17 (35, .iconst 0, 1) rfl
theorem d_F_encodeSquare_36 : decode b_F_encodeSquare 36 = .ok (.istore 6, 2) := dd_F_encodeSquare 18 (36, .istore 6, 2) rfl
theorem d_F_encodeSquare_38 : decode b_F_encodeSquare 38 = .ok (.iload_n 3, 1) := dd_F_encodeSquare 19 (38, .iload_n 3, 1) rfl
theorem d_F_encodeSquare_39 : decode b_F_encodeSquare 39 = .ok (.iload 4, 2) := dd_F_encodeSquare 20 (39, .iload 4, 2) rfl
theorem d_F_encodeSquare_41 : decode b_F_encodeSquare 41 = .ok (.if_icmp .le 21, 3) := dd_F_encodeSquare 21 (41, .if_icmp .le 21, 3) rfl
theorem d_F_encodeSquare_44 : decode b_F_encodeSquare 44 = .ok (.aload_n 0, 1) := dd_F_encodeSquare 22 (44, .aload_n 0, 1) rfl
theorem d_F_encodeSquare_45 : decode b_F_encodeSquare 45 = .ok (.getfield 74, 3) := dd_F_encodeSquare 23 (45, .getfield 74, 3) rfl
theorem d_F_encodeSquare_48 : decode b_F_encodeSquare 48 = .ok (.iload 6, 2) := dd_F_encodeSquare 24 (48, .iload 6, 2) rfl
theorem d_F_encodeSquare_50 : decode b_F_encodeSquare 50 = .ok (.ifCond .eq 7, 3) := dd_F_encodeSquare 25 (50, .ifCond .eq 7, 3) rfl
theorem d_F_encodeSquare_53 : decode b_F_encodeSquare 53 = .ok (.iconst 1, 1) := dd_F_encodeSquare 26 (53, .iconst 1, 1) rfl
theorem d_F_encodeSquare_54 : decode b_F_encodeSquare 54 = .ok (.goto 4, 3) := dd_F_encodeSquare 27 (54, .goto 4, 3) rfl
theorem d_F_encodeSquare_57 : decode b_F_encodeSquare 57 = .ok (.iconst 0, 1) := dd_F_encodeSquare 28 (57, .iconst 0, 1) rfl
theorem d_F_encodeSquare_58 : decode b_F_encodeSquare 58 = .ok (.iconst 1, 1) := dd_F_encodeSquare 29 (58, .iconst 1, 1) rfl
theorem d_F_encodeSquare_59 : decode b_F_encodeSquare 59 = .ok (.invokevirtual 129, 3) := dd_F_encodeSquare 30 (59, .invokevirtual 129, 3) rfl
theorem d_F_encodeSquare_62 : decode b_F_encodeSquare 62 = .ok (.iload 6, 2) := dd_F_encodeSquare 31 (62, .iload 6, 2) rfl
theorem d_F_encodeSquare_64 : decode b_F_encodeSquare 64 = .ok (.ifCond .eq 19, 3) := dd_F_encodeSquare 32 (64, .ifCond .eq 19, 3) rfl
theorem d_F_encodeSquare_67 : decode b_F_encodeSquare 67 = .ok (.aload_n 0, 1) := dd_F_encodeSquare 33 (67, .aload_n 0, 1) rfl
theorem d_F_encodeSquare_68 : decode b_F_encodeSquare 68 = .ok (.iload_n 1, 1) := dd_F_encodeSquare 34 (68, .iload_n 1, 1) rfl
theorem d_F_encodeSquare_69 : decode b_F_encodeSquare 69 = .ok (.iload_n 2, 1) := dd_F_encodeSquare 35 (69, .iload_n 2, 1) rfl
theorem d_F_encodeSquare_70 : decode b_F_encodeSquare 70 = .ok (.iload_n 3, 1) := dd_F_encodeSquare 36 (70, .iload_n 3, 1) rfl
theorem d_F_encodeSquare_71 : decode b_F_encodeSquare 71 = .ok (.iconst 2, 1) := dd_F_encodeSquare 37 (71, .iconst 2, 1) rfl
theorem d_F_encodeSquare_72 : decode b_F_encodeSquare 72 = .ok (.idiv, 1) := dd_F_encodeSquare 38 (72, .idiv, 1) rfl
theorem d_F_encodeSquare_73 : decode b_F_encodeSquare 73 = .ok (.iload 4, 2) := dd_F_encodeSquare 39 (73, .iload 4, 2) rfl
theorem d_F_encodeSquare_75 : decode b_F_encodeSquare 75 = .ok (.iload 5, 2) := dd_F_encodeSquare 40 (75, .iload 5, 2) rfl
theorem d_F_encodeSquare_77 : decode b_F_encodeSquare 77 = .ok (.invokevirtual 132, 3) := dd_F_encodeSquare 41 (77, .invokevirtual 132, 3) rfl
theorem d_F_encodeSquare_80 : decode b_F_encodeSquare 80 = .ok (.goto 32, 3) := dd_F_encodeSquare 42 (80, .goto 32, 3) rfl
theorem d_F_encodeSquare_83 : decode b_F_encodeSquare 83 = .ok (.aload_n 0, 1) := dd_F_encodeSquare 43 (83, .aload_n 0, 1) rfl
theorem d_F_encodeSquare_84 : decode b_F_encodeSquare 84 = .ok (.getfield 60, 3) := dd_F_encodeSquare 44 (84, .getfield 60, 3) rfl
theorem d_F_encodeSquare_87 : decode b_F_encodeSquare 87 = .ok (.iload_n 1, 1) := dd_F_encodeSquare 45 (87, .iload_n 1, 1) rfl
theorem d_F_encodeSquare_88 : decode b_F_encodeSquare 88 = .ok (.iload_n 2, 1) := dd_F_encodeSquare 46 (88, .iload_n 2, 1) rfl
theorem d_F_encodeSquare_89 : decode b_F_encodeSquare 89 = .ok (.iload_n 3, 1) := dd_F_encodeSquare 47 (89, .iload_n 3, 1) rfl
theorem d_F_encodeSquare_90 : decode b_F_encodeSquare 90 = .ok (.aload_n 0, 1) := dd_F_encodeSquare 48 (90, .aload_n 0, 1) rfl
theorem d_F_encodeSquare_91 : decode b_F_encodeSquare 91 = .ok (.getfield 51, 3) := dd_F_encodeSquare 49 (91, .getfield 51, 3) rfl
theorem d_F_encodeSquare_94 : decode b_F_encodeSquare 94 = .ok (.getfield 227, 3) := dd_F_encodeSquare 50 (94, .getfield 227, 3) rfl
theorem d_F_encodeSquare_97 : decode b_F_encodeSquare 97 = .ok (.invokevirtual 233, 3) := dd_F_encodeSquare 51 (97, .invokevirtual 233, 3) rfl
theorem d_F_encodeSquare_100 : decode b_F_encodeSquare 100 = .ok (.aload_n 0, 1) := dd_F_encodeSquare 52 (100, .aload_n 0, 1) rfl
theorem d_F_encodeSquare_101 : decode b_F_encodeSquare 101 = .ok (.iload_n 3, 1) := dd_F_encodeSquare 53 (101, .iload_n 3, 1) rfl
theorem d_F_encodeSquare_102 : decode b_F_encodeSquare 102 = .ok (.aload_n 0, 1) := dd_F_encodeSquare 54 (102, .aload_n 0, 1) rfl
theorem d_F_encodeSquare_103 : decode b_F_encodeSquare 103 = .ok (.getfield 51, 3) := dd_F_encodeSquare 55 (103, .getfield 51, 3) rfl
theorem d_F_encodeSquare_106 : decode b_F_encodeSquare 106 = .ok (.getfield 227, 3) := dd_F_encodeSquare 56 (106, .getfield 227, 3) rfl
theorem d_F_encodeSquare_109 : decode b_F_encodeSquare 109 = .ok (.invokevirtual 237, 3) := dd_F_encodeSquare 57 (109, .invokevirtual 237, 3) rfl
theorem d_F_encodeSquare_112 : decode b_F_encodeSquare 112 = .ok (.return_, 1) := dd_F_encodeSquare 58 (112, .return_, 1) rfl
def tb_F_writeFit : List (Nat × Instr × Nat) := [(0, .aload_n 0, 1), (1, .getfield 74, 3), (4, .aload_n 2, 1), (5, .getfield 241, 3), (8, .aload_n 0, 1), (9, .iload_n 1, 1), (10, .invokevirtual 244, 3), (13, .invokevirtual 129, 3), (16, .aload_n 0, 1), (17, .getfield 74, 3), (20, .aload_n 2, 1), (21, .getfield 247, 3), (24, .iconst 3, 1), (25, .invokevirtual 129, 3), (28, .aload_n 0, 1), (29, .getfield 74, 3), (32, .aload_n 2, 1), (33, .getfield 250, 3), (36, .bipush 7, 2), (38, .iadd, 1), (39, .iconst 4, 1), (40, .invokevirtual 129, 3), (43, .aload_n 0, 1), (44, .getfield 74, 3), (47, .aload_n 2, 1), (48, .getfield 253, 3), (51, .sipush 256, 3), (54, .iadd, 1), (55, .bipush 10, 2), (57, .invokevirtual 129, 3), (60, .return_, 1)]
theorem dd_F_writeFit : ∀ (i : Nat) (q : Nat × Instr × Nat), tb_F_writeFit[i]? = some q → decode b_F_writeFit q.1 = .ok (q.2.1, q.2.2) := z_tab (by decide +kernel)
theorem d_F_writeFit_0 : decode b_F_writeFit 0 = .ok (.aload_n 0, 1) := dd_F_writeFit 0 (0, .aload_n 0, 1) rfl
theorem d_F_writeFit_1 : decode b_F_writeFit 1 = .ok (.getfield 74, 3) := dd_F_writeFit 1 (1, .getfield 74, 3) rfl
theorem d_F_writeFit_4 : decode b_F_writeFit 4 = .ok (.aload_n 2, 1) := dd_F_writeFit 2 (4, .aload_n 2, 1) rfl
theorem d_F_writeFit_5 : decode b_F_writeFit 5 = .ok (.getfield 241, 3) := dd_F_writeFit 3 (5, .getfield 241, 3) rfl
theorem d_F_writeFit_8 : decode b_F_writeFit 8 = .ok (.aload_n 0, 1) := dd_F_writeFit 4 (8, .aload_n 0, 1) rfl
theorem d_F_writeFit_9 : decode b_F_writeFit 9 = .ok (.iload_n 1, 1) := dd_F_writeFit 5 (9, .iload_n 1, 1) rfl
theorem d_F_writeFit_10 : decode b_F_writeFit 10 = .ok (.invokevirtual 244, 3) := dd_F_writeFit 6 (10, .invokevirtual 244, 3) rfl
theorem d_F_writeFit_13 : decode b_F_writeFit 13 = .ok (.invokevirtual 129, 3) := dd_F_writeFit 7 (13, .invokevirtual 129, 3) rfl
theorem d_F_writeFit_16 : decode b_F_writeFit 16 = .ok (.aload_n 0, 1) := dd_F_writeFit 8 (16, .aload_n 0, 1) rfl
theorem d_F_writeFit_17 : decode b_F_writeFit 17 = .ok (.getfield 74, 3) := dd_F_writeFit 9 (17, .getfield 74, 3) rfl
theorem d_F_writeFit_20 : decode b_F_writeFit 20 = .ok (.aload_n 2, 1) := dd_F_writeFit 10 (20, .aload_n 2, 1) rfl
theorem d_F_writeFit_21 : decode b_F_writeFit 21 = .ok (.getfield 247, 3) := dd_F_writeFit 11 (21, .getfield 247, 3) rfl
theorem d_F_writeFit_24 : decode b_F_writeFit 24 = .ok (.iconst 3, 1) := dd_F_writeFit 12 (24, .iconst 3, 1) rfl
theorem d_F_writeFit_25 : decode b_F_writeFit 25 = .ok (.invokevirtual 129, 3) := dd_F_writeFit 13 (25, .invokevirtual 129, 3) rfl
theorem d_F_writeFit_28 : decode b_F_writeFit 28 = .ok (.aload_n 0, 1) := dd_F_writeFit 14 (28, .aload_n 0, 1) rfl
theorem d_F_writeFit_29 : decode b_F_writeFit 29 = .ok (.getfield 74, 3) := dd_F_writeFit 15 (29, .getfield 74, 3) rfl
theorem d_F_writeFit_32 : decode b_F_writeFit 32 = .ok (.aload_n 2, 1) := dd_F_writeFit 16 (32, .aload_n 2, 1) rfl
theorem d_F_writeFit_33 : decode b_F_writeFit 33 = .ok (.getfield 250, 3) := dd_F_writeFit 17 (33, .getfield 250, 3) rfl
theorem d_F_writeFit_36 : decode b_F_writeFit 36 = .ok (.bipush 7, 2) := dd_F_writeFit 18 (36, .bipush 7, 2) rfl
theorem d_F_writeFit_38 : decode b_F_writeFit 38 = .ok (.iadd, 1) := dd_F_writeFit 19 (38, .iadd, 1) rfl
theorem d_F_writeFit_39 : decode b_F_writeFit 39 = .ok (.iconst 4, 1) := dd_F_writeFit 20 (39, .iconst 4, 1) rfl
theorem d_F_writeFit_40 : decode b_F_writeFit 40 = .ok (.invokevirtual 129, 3) := dd_F_writeFit 21 (40, .invokevirtual 129, 3) rfl
theorem d_F_writeFit_43 : decode b_F_writeFit 43 = .ok (.aload_n 0, 1) := dd_F_writeFit 22 (43, .aload_n 0, 1) rfl
theorem d_F_writeFit_44 : decode b_F_writeFit 44 = .ok (.getfield 74, 3) := dd_F_writeFit 23 (44, .getfield 74, 3) rfl
theorem d_F_writeFit_47 : decode b_F_writeFit 47 = .ok (.aload_n 2, 1) := dd_F_writeFit 24 (47, .aload_n 2, 1) rfl
theorem d_F_writeFit_48 : decode b_F_writeFit 48 = .ok (.getfield 253, 3) := dd_F_writeFit 25 (48, .getfield 253, 3) rfl
theorem d_F_writeFit_51 : decode b_F_writeFit 51 = .ok (.sipush 256, 3) := dd_F_writeFit 26 (51, .sipush 256, 3) rfl
theorem d_F_writeFit_54 : decode b_F_writeFit 54 = .ok (.iadd, 1) := dd_F_writeFit 27 (54, .iadd, 1) rfl
theorem d_F_writeFit_55 : decode b_F_writeFit 55 = .ok (.bipush 10, 2) := dd_F_writeFit 28 (55, .bipush 10, 2) rfl
theorem d_F_writeFit_57 : decode b_F_writeFit 57 = .ok (.invokevirtual 129, 3) := dd_F_writeFit 29 (57, .invokevirtual 129, 3) rfl
theorem d_F_writeFit_60 : decode b_F_writeFit 60 = .ok (.return_, 1) := dd_F_writeFit 30 (60, .return_, 1) rfl
def tb_F_readWaiting : List (Nat × Instr × Nat) := [(0, .aload_n 0, 1), (1, .getfield 78, 3), (4, .invokevirtual 256, 3), (7, .aload_n 0, 1), (8, .getfield 78, 3), (11, .iconst 3, 1), (12, .invokevirtual 259, 3), (15, .istore_n 2, 1), (16, .iload_n 2, 1), (17, .iconst (-1), 1), (18, .if_icmp .ne 5, 3), (21, .iconst 3, 1), (22, .ireturn, 1), (23, .iconst 1, 1), (24, .iload_n 2, 1), (25, .ishl, 1), (26, .istore_n 3, 1), (27, .iload_n 3, 1), (28, .invokestatic 110, 3), (31, .ifCond .eq 13, 3), (34, .iload_n 3, 1), (35, .aload_n 0, 1), (36, .getfield 16, 3), (39, .iconst 2, 1), (40, .idiv, 1), (41, .if_icmp .le 5, 3), (44, .iconst 0, 1), (45, .ireturn, 1), (46, .aload_n 0, 1), (47, .iconst 0, 1), (48, .iconst 0, 1), (49, .aload_n 0, 1), (50, .getfield 16, 3), (53, .iconst 2, 1), (54, .idiv, 1), (55, .iload_n 3, 1), (56, .iload_n 1, 1), (57, .invokevirtual 262, 3), (60, .istore 4, 2), (62, .iload 4, 2), (64, .iconst (-1), 1), (65, .if_icmp .eq 6, 3), (68, .iload 4, 2), (70, .ireturn, 1), (71, .aload_n 0, 1), (72, .getfield 78, 3), (75, .invokevirtual 266, 3), (78, .ifCond .eq 7, 3), (81, .iconst (-1), 1), (82, .goto 4, 3), (85, .iconst 4, 1), (86, .ireturn, 1)]
theorem dd_F_readWaiting : ∀ (i : Nat) (q : Nat × Instr × Nat), tb_F_readWaiting[i]? = some q → decode b_F_readWaiting q.1 = .ok (q.2.1, q.2.2) := z_tab (by decide +kernel)
theorem d_F_readWaiting_0 : decode b_F_readWaiting 0 = .ok (.aload_n 0, 1) := dd_F_readWaiting 0 (0, .aload_n 0, 1) rfl
theorem d_F_readWaiting_1 : decode b_F_readWaiting 1 = .ok (.getfield 78, 3) := dd_F_readWaiting 1 (1, .getfield 78, 3) rfl
theorem d_F_readWaiting_4 : decode b_F_readWaiting 4 = .ok (.invokevirtual 256, 3) := dd_F_readWaiting 2 (4, .invokevirtual 256, 3) rfl
theorem d_F_readWaiting_7 : decode b_F_readWaiting 7 = .ok (.aload_n 0, 1) := dd_F_readWaiting 3 (7, .aload_n 0, 1) rfl
theorem d_F_readWaiting_8 : decode b_F_readWaiting 8 = .ok (.getfield 78, 3) := dd_F_readWaiting 4 (8, .getfield 78, 3) rfl
theorem d_F_readWaiting_11 : decode b_F_readWaiting 11 = .ok (.iconst 3, 1) := dd_F_readWaiting 5 (11, .iconst 3, 1) rfl
theorem d_F_readWaiting_12 : decode b_F_readWaiting 12 = .ok (.invokevirtual 259, 3) := dd_F_readWaiting 6 (12, .invokevirtual 259, 3) rfl
theorem d_F_readWaiting_15 : decode b_F_readWaiting 15 = .ok (.istore_n 2, 1) := dd_F_readWaiting 7 (15, .istore_n 2, 1) rfl
theorem d_F_readWaiting_16 : decode b_F_readWaiting 16 = .ok (.iload_n 2, 1) := dd_F_readWaiting 8 (16, .iload_n 2, 1) rfl
theorem d_F_readWaiting_17 : decode b_F_readWaiting 17 = .ok (.iconst (-1), 1) := dd_F_readWaiting 9 (17, .iconst (-1), 1) rfl
theorem d_F_readWaiting_18 : decode b_F_readWaiting 18 = .ok (.if_icmp .ne 5, 3) := dd_F_readWaiting 10 (18, .if_icmp .ne 5, 3) rfl
theorem d_F_readWaiting_21 : decode b_F_readWaiting 21 = .ok (.iconst 3, 1) := dd_F_readWaiting 11 (21, .iconst 3, 1) rfl
theorem d_F_readWaiting_22 : decode b_F_readWaiting 22 = .ok (.ireturn, 1) := dd_F_readWaiting 12 (22, .ireturn, 1) rfl
theorem d_F_readWaiting_23 : decode b_F_readWaiting 23 = .ok (.iconst 1, 1) := dd_F_readWaiting 13 (23, .iconst 1, 1) rfl
theorem d_F_readWaiting_24 : decode b_F_readWaiting 24 = .ok (.iload_n 2, 1) := dd_F_readWaiting 14 (24, .iload_n 2, 1) rfl
theorem d_F_readWaiting_25 : decode b_F_readWaiting 25 = .ok (.ishl, 1) := dd_F_readWaiting 15 (25, .ishl, 1) rfl
theorem d_F_readWaiting_26 : decode b_F_readWaiting 26 = .ok (.istore_n 3, 1) := dd_F_readWaiting 16 (26, .istore_n 3, 1) rfl
theorem d_F_readWaiting_27 : decode b_F_readWaiting 27 = .ok (.iload_n 3, 1) := dd_F_readWaiting 17 (27, .iload_n 3, 1) rfl
theorem d_F_readWaiting_28 : decode b_F_readWaiting 28 = .ok (.invokestatic 110, 3) := dd_F_readWaiting 18 (28, .invokestatic 110, 3) rfl
theorem d_F_readWaiting_31 : decode b_F_readWaiting 31 = .ok (.ifCond .eq 13, 3) := dd_F_readWaiting 19 (31, .ifCond .eq 13, 3) rfl
theorem d_F_readWaiting_34 : decode b_F_readWaiting 34 = .ok (.iload_n 3, 1) := dd_F_readWaiting 20 (34, .iload_n 3, 1) rfl
theorem d_F_readWaiting_35 : decode b_F_readWaiting 35 = .ok (.aload_n 0, 1) := dd_F_readWaiting 21 (35, .aload_n 0, 1) rfl
theorem d_F_readWaiting_36 : decode b_F_readWaiting 36 = .ok (.getfield 16, 3) := dd_F_readWaiting 22 (36, .getfield 16, 3) rfl
theorem d_F_readWaiting_39 : decode b_F_readWaiting 39 = .ok (.iconst 2, 1) := dd_F_readWaiting 23 (39, .iconst 2, 1) rfl
theorem d_F_readWaiting_40 : decode b_F_readWaiting 40 = .ok (.idiv, 1) := dd_F_readWaiting 24 (40, .idiv, 1) rfl
theorem d_F_readWaiting_41 : decode b_F_readWaiting 41 = .ok (.if_icmp .le 5, 3) := dd_F_readWaiting 25 (41, .if_icmp .le 5, 3) rfl
theorem d_F_readWaiting_44 : decode b_F_readWaiting 44 = .ok (.iconst 0, 1) := dd_F_readWaiting 26 (44, .iconst 0, 1) rfl
theorem d_F_readWaiting_45 : decode b_F_readWaiting 45 = .ok (.ireturn, 1) := dd_F_readWaiting 27 (45, .ireturn, 1) rfl
theorem d_F_readWaiting_46 : decode b_F_readWaiting 46 = .ok (.aload_n 0, 1) := dd_F_readWaiting 28 (46, .aload_n 0, 1) rfl
theorem d_F_readWaiting_47 : decode b_F_readWaiting 47 = .ok (.iconst 0, 1) := dd_F_readWaiting 29 (47, .iconst 0, 1) rfl
theorem d_F_readWaiting_48 : decode b_F_readWaiting 48 = .ok (.iconst 0, 1) := dd_F_readWaiting 30 (48, .iconst 0, 1) rfl
theorem d_F_readWaiting_49 : decode b_F_readWaiting 49 = .ok (.aload_n 0, 1) := dd_F_readWaiting 31 (49, .aload_n 0, 1) rfl
theorem d_F_readWaiting_50 : decode b_F_readWaiting 50 = .ok (.getfield 16, 3) := dd_F_readWaiting 32 (50, .getfield 16, 3) rfl
theorem d_F_readWaiting_53 : decode b_F_readWaiting 53 = .ok (.iconst 2, 1) := dd_F_readWaiting 33 (53, .iconst 2, 1) rfl
theorem d_F_readWaiting_54 : decode b_F_readWaiting 54 = .ok (.idiv, 1) := dd_F_readWaiting 34 (54, .idiv, 1) rfl
theorem d_F_readWaiting_55 : decode b_F_readWaiting 55 = .ok (.iload_n 3, 1) := dd_F_readWaiting 35 (55, .iload_n 3, 1) rfl
theorem d_F_readWaiting_56 : decode b_F_readWaiting 56 = .ok (.iload_n 1, 1) := dd_F_readWaiting 36 (56, .iload_n 1, 1) rfl
theorem d_F_readWaiting_57 : decode b_F_readWaiting 57 = .ok (.invokevirtual 262, 3) := dd_F_readWaiting 37 (57, .invokevirtual 262, 3) rfl
theorem d_F_readWaiting_60 : decode b_F_readWaiting 60 = .ok (.istore 4, 2) := dd_F_readWaiting 38 (60, .istore 4, 2) rfl
theorem d_F_readWaiting_62 : decode b_F_readWaiting 62 = .ok (.iload 4, 2) := dd_F_readWaiting 39 (62, .iload 4, 2) rfl
theorem d_F_readWaiting_64 : decode b_F_readWaiting 64 = .ok (.iconst (-1), 1) := dd_F_readWaiting 40 (64, .iconst (-1), 1) rfl
theorem d_F_readWaiting_65 : decode b_F_readWaiting 65 = .ok (.if_icmp .eq 6, 3) := dd_F_readWaiting 41 (65, .if_icmp .eq 6, 3) rfl
theorem d_F_readWaiting_68 : decode b_F_readWaiting 68 = .ok (.iload 4, 2) := dd_F_readWaiting 42 (68, .iload 4, 2) rfl
theorem d_F_readWaiting_70 : decode b_F_readWaiting 70 = .ok (.ireturn, 1) := dd_F_readWaiting 43 (70, .ireturn, 1) rfl
theorem d_F_readWaiting_71 : decode b_F_readWaiting 71 = .ok (.aload_n 0, 1) := dd_F_readWaiting 44 (71, .aload_n 0, 1) rfl
theorem d_F_readWaiting_72 : decode b_F_readWaiting 72 = .ok (.getfield 78, 3) := dd_F_readWaiting 45 (72, .getfield 78, 3) rfl
theorem d_F_readWaiting_75 : decode b_F_readWaiting 75 = .ok (.invokevirtual 266, 3) := dd_F_readWaiting 46 (75, .invokevirtual 266, 3) rfl
theorem d_F_readWaiting_78 : decode b_F_readWaiting 78 = .ok (.ifCond .eq 7, 3) := dd_F_readWaiting 47 (78, .ifCond .eq 7, 3) rfl
theorem d_F_readWaiting_81 : decode b_F_readWaiting 81 = .ok (.iconst (-1), 1) := dd_F_readWaiting 48 (81, .iconst (-1), 1) rfl
theorem d_F_readWaiting_82 : decode b_F_readWaiting 82 = .ok (.goto 4, 3) := dd_F_readWaiting 49 (82, .goto 4, 3) rfl
theorem d_F_readWaiting_85 : decode b_F_readWaiting 85 = .ok (.iconst 4, 1) := dd_F_readWaiting 50 (85, .iconst 4, 1) rfl
theorem d_F_readWaiting_86 : decode b_F_readWaiting 86 = .ok (.ireturn, 1) := dd_F_readWaiting 51 (86, .ireturn, 1) rfl
def tb_F_readQuarters : List (Nat × Instr × Nat) := [(0, .iload_n 3, 1), (1, .iconst 2, 1), (2, .if_icmp .ge 5, 3), (5, .iconst 0, 1), (6, .ireturn, 1), (7, .iconst (-1), 1), (8, .istore 6, 2), (10, .iconst 0, 1), (11, .istore 7, 2), (13, .iload 7, 2), (15, .iconst 4, 1), (16, .if_icmp .ge 44, 3), (19, .iload 6, 2), (21, .iconst (-1), 1), (22, .if_icmp .ne 38, 3), (25, .aload_n 0, 1), (26, .iload_n 1, 1), (27, .iload 7, 2), (29, .invokestatic 215, 3), (32, .iload_n 3, 1), (33, .imul, 1), (34, .iadd, 1), (35, .iload_n 2, 1), (36, .iload 7, 2), (38, .invokestatic 218, 3), (41, .iload_n 3, 1), (42, .imul, 1), (43, .iadd, 1), (44, .iload_n 3, 1), (45, .iload 4, 2), (47, .iload 5, 2), (49, .invokevirtual 270, 3), (52, .istore 6, 2), (54, .iinc 7 1, 3), (57, .goto (-44), 3), (60, .iload 6, 2), (62, .ireturn, 1)]
theorem dd_F_readQuarters : ∀ (i : Nat) (q : Nat × Instr × Nat), tb_F_readQuarters[i]? = some q → decode b_F_readQuarters q.1 = .ok (q.2.1, q.2.2) := z_tab (by decide +kernel)
theorem d_F_readQuarters_0 : decode b_F_readQuarters 0 = .ok (.iload_n 3, 1) := dd_F_readQuarters 0 (0, .iload_n 3, 1) rfl
theorem d_F_readQuarters_1 : decode b_F_readQuarters 1 = .ok (.iconst 2, 1) := dd_F_readQuarters 1 (1, .iconst 2, 1) rfl
theorem d_F_readQuarters_2 : decode b_F_readQuarters 2 = .ok (.if_icmp .ge 5, 3) := dd_F_readQuarters 2 (2, .if_icmp .ge 5, 3) rfl
theorem d_F_readQuarters_5 : decode b_F_readQuarters 5 = .ok (.iconst 0, 1) := dd_F_readQuarters 3 (5, .iconst 0, 1) rfl
theorem d_F_readQuarters_6 : decode b_F_readQuarters 6 = .ok (.ireturn, 1) := dd_F_readQuarters 4 (6, .ireturn, 1) rfl
theorem d_F_readQuarters_7 : decode b_F_readQuarters 7 = .ok (.iconst (-1), 1) := dd_F_readQuarters 5 (7, .iconst (-1), 1) rfl
theorem d_F_readQuarters_8 : decode b_F_readQuarters 8 = .ok (.istore 6, 2) := dd_F_readQuarters 6 (8, .istore 6, 2) rfl
theorem d_F_readQuarters_10 : decode b_F_readQuarters 10 = .ok (.iconst 0, 1) := dd_F_readQuarters 7 (10, .iconst 0, 1) rfl
theorem d_F_readQuarters_11 : decode b_F_readQuarters 11 = .ok (.istore 7, 2) := dd_F_readQuarters 8 (11, .istore 7, 2) rfl
theorem d_F_readQuarters_13 : decode b_F_readQuarters 13 = .ok (.iload 7, 2) := dd_F_readQuarters 9 (13, .iload 7, 2) rfl
theorem d_F_readQuarters_15 : decode b_F_readQuarters 15 = .ok (.iconst 4, 1) := dd_F_readQuarters 10 (15, .iconst 4, 1) rfl
theorem d_F_readQuarters_16 : decode b_F_readQuarters 16 = .ok (.if_icmp .ge 44, 3) := dd_F_readQuarters 11 (16, .if_icmp .ge 44, 3) rfl
theorem d_F_readQuarters_19 : decode b_F_readQuarters 19 = .ok (.iload 6, 2) := dd_F_readQuarters 12 (19, .iload 6, 2) rfl
theorem d_F_readQuarters_21 : decode b_F_readQuarters 21 = .ok (.iconst (-1), 1) := dd_F_readQuarters 13 (21, .iconst (-1), 1) rfl
theorem d_F_readQuarters_22 : decode b_F_readQuarters 22 = .ok (.if_icmp .ne 38, 3) := dd_F_readQuarters 14 (22, .if_icmp .ne 38, 3) rfl
theorem d_F_readQuarters_25 : decode b_F_readQuarters 25 = .ok (.aload_n 0, 1) := dd_F_readQuarters 15 (25, .aload_n 0, 1) rfl
theorem d_F_readQuarters_26 : decode b_F_readQuarters 26 = .ok (.iload_n 1, 1) := dd_F_readQuarters 16 (26, .iload_n 1, 1) rfl
theorem d_F_readQuarters_27 : decode b_F_readQuarters 27 = .ok (.iload 7, 2) := dd_F_readQuarters 17 (27, .iload 7, 2) rfl
theorem d_F_readQuarters_29 : decode b_F_readQuarters 29 = .ok (.invokestatic 215, 3) := dd_F_readQuarters 18 (29, .invokestatic 215, 3) rfl
theorem d_F_readQuarters_32 : decode b_F_readQuarters 32 = .ok (.iload_n 3, 1) := dd_F_readQuarters 19 (32, .iload_n 3, 1) rfl
theorem d_F_readQuarters_33 : decode b_F_readQuarters 33 = .ok (.imul, 1) := dd_F_readQuarters 20 (33, .imul, 1) rfl
theorem d_F_readQuarters_34 : decode b_F_readQuarters 34 = .ok (.iadd, 1) := dd_F_readQuarters 21 (34, .iadd, 1) rfl
theorem d_F_readQuarters_35 : decode b_F_readQuarters 35 = .ok (.iload_n 2, 1) := dd_F_readQuarters 22 (35, .iload_n 2, 1) rfl
theorem d_F_readQuarters_36 : decode b_F_readQuarters 36 = .ok (.iload 7, 2) := dd_F_readQuarters 23 (36, .iload 7, 2) rfl
theorem d_F_readQuarters_38 : decode b_F_readQuarters 38 = .ok (.invokestatic 218, 3) := dd_F_readQuarters 24 (38, .invokestatic 218, 3) rfl
theorem d_F_readQuarters_41 : decode b_F_readQuarters 41 = .ok (.iload_n 3, 1) := dd_F_readQuarters 25 (41, .iload_n 3, 1) rfl
theorem d_F_readQuarters_42 : decode b_F_readQuarters 42 = .ok (.imul, 1) := dd_F_readQuarters 26 (42, .imul, 1) rfl
theorem d_F_readQuarters_43 : decode b_F_readQuarters 43 = .ok (.iadd, 1) := dd_F_readQuarters 27 (43, .iadd, 1) rfl
theorem d_F_readQuarters_44 : decode b_F_readQuarters 44 = .ok (.iload_n 3, 1) := dd_F_readQuarters 28 (44, .iload_n 3, 1) rfl
theorem d_F_readQuarters_45 : decode b_F_readQuarters 45 = .ok (.iload 4, 2) := dd_F_readQuarters 29 (45, .iload 4, 2) rfl
theorem d_F_readQuarters_47 : decode b_F_readQuarters 47 = .ok (.iload 5, 2) := dd_F_readQuarters 30 (47, .iload 5, 2) rfl
theorem d_F_readQuarters_49 : decode b_F_readQuarters 49 = .ok (.invokevirtual 270, 3) := dd_F_readQuarters 31 (49, .invokevirtual 270, 3) rfl
theorem d_F_readQuarters_52 : decode b_F_readQuarters 52 = .ok (.istore 6, 2) := dd_F_readQuarters 32 (52, .istore 6, 2) rfl
theorem d_F_readQuarters_54 : decode b_F_readQuarters 54 = .ok (.iinc 7 1, 3) := dd_F_readQuarters 33 (54, .iinc 7 1, 3) rfl
theorem d_F_readQuarters_57 : decode b_F_readQuarters 57 = .ok (.goto (-44), 3) := dd_F_readQuarters 34 (57, .goto (-44), 3) rfl
theorem d_F_readQuarters_60 : decode b_F_readQuarters 60 = .ok (.iload 6, 2) := dd_F_readQuarters 35 (60, .iload 6, 2) rfl
theorem d_F_readQuarters_62 : decode b_F_readQuarters 62 = .ok (.ireturn, 1) := dd_F_readQuarters 36 (62, .ireturn, 1) rfl
def tb_F_readSquare : List (Nat × Instr × Nat) := [(0, .iload_n 3, 1), (1, .iload 4, 2), (3, .if_icmp .le 14, 3), (6, .aload_n 0, 1), (7, .getfield 78, 3), (10, .iconst 1, 1), (11, .invokevirtual 259, 3), (14, .goto 4, 3), (17, .iconst 0, 1), (18, .istore 6, 2), (20, .iload 6, 2), (22, .iconst (-1), 1), (23, .if_icmp .ne 5, 3), (26, .iconst 3, 1), (27, .ireturn, 1), (28, .iload 6, 2), (30, .iconst 1, 1), (31, .if_icmp .ne 17, 3), (34, .aload_n 0, 1), (35, .iload_n 1, 1), (36, .iload_n 2, 1), (37, .iload_n 3, 1), (38, .iconst 2, 1), (39, .idiv, 1), (40, .iload 4, 2), (42, .iload 5, 2), (44, .invokevirtual 262, 3), (47, .ireturn, 1), (48, .aload_n 0, 1), (49, .iload_n 3, 1), (50, .invokevirtual 273, 3), (53, .istore 7, 2), (55, .iload 7, 2), (57, .iconst (-1), 1), (58, .if_icmp .ne 22, 3), (61, .iload 5, 2), (63, .ifCond .eq 17, 3), (66, .aload_n 0, 1), (67, .getfield 60, 3), (70, .iload_n 1, 1), (71, .iload_n 2, 1), (72, .iload_n 3, 1), (73, .aload_n 0, 1), (74, .getfield 67, 3), (77, .invokevirtual 233, 3), (80, .iload 7, 2), (82, .ireturn, 1)]
theorem dd_F_readSquare : ∀ (i : Nat) (q : Nat × Instr × Nat), tb_F_readSquare[i]? = some q → decode b_F_readSquare q.1 = .ok (q.2.1, q.2.2) := z_tab (by decide +kernel)
theorem d_F_readSquare_0 : decode b_F_readSquare 0 = .ok (.iload_n 3, 1) := dd_F_readSquare 0 (0, .iload_n 3, 1) rfl
theorem d_F_readSquare_1 : decode b_F_readSquare 1 = .ok (.iload 4, 2) := dd_F_readSquare 1 (1, .iload 4, 2) rfl
theorem d_F_readSquare_3 : decode b_F_readSquare 3 = .ok (.if_icmp .le 14, 3) := dd_F_readSquare 2 (3, .if_icmp .le 14, 3) rfl
theorem d_F_readSquare_6 : decode b_F_readSquare 6 = .ok (.aload_n 0, 1) := dd_F_readSquare 3 (6, .aload_n 0, 1) rfl
theorem d_F_readSquare_7 : decode b_F_readSquare 7 = .ok (.getfield 78, 3) := dd_F_readSquare 4 (7, .getfield 78, 3) rfl
theorem d_F_readSquare_10 : decode b_F_readSquare 10 = .ok (.iconst 1, 1) := dd_F_readSquare 5 (10, .iconst 1, 1) rfl
theorem d_F_readSquare_11 : decode b_F_readSquare 11 = .ok (.invokevirtual 259, 3) := dd_F_readSquare 6 (11, .invokevirtual 259, 3) rfl
theorem d_F_readSquare_14 : decode b_F_readSquare 14 = .ok (.goto 4, 3) := dd_F_readSquare 7 (14, .goto 4, 3) rfl
theorem d_F_readSquare_17 : decode b_F_readSquare 17 = .ok (.iconst 0, 1) := dd_F_readSquare 8 (17, .iconst 0, 1) rfl
theorem d_F_readSquare_18 : decode b_F_readSquare 18 = .ok (.istore 6, 2) := dd_F_readSquare 9 (18, .istore 6, 2) rfl
theorem d_F_readSquare_20 : decode b_F_readSquare 20 = .ok (.iload 6, 2) := dd_F_readSquare 10 (20, .iload 6, 2) rfl
theorem d_F_readSquare_22 : decode b_F_readSquare 22 = .ok (.iconst (-1), 1) := dd_F_readSquare 11 (22, .iconst (-1), 1) rfl
theorem d_F_readSquare_23 : decode b_F_readSquare 23 = .ok (.if_icmp .ne 5, 3) := dd_F_readSquare 12 (23, .if_icmp .ne 5, 3) rfl
theorem d_F_readSquare_26 : decode b_F_readSquare 26 = .ok (.iconst 3, 1) := dd_F_readSquare 13 (26, .iconst 3, 1) rfl
theorem d_F_readSquare_27 : decode b_F_readSquare 27 = .ok (.ireturn, 1) := dd_F_readSquare 14 (27, .ireturn, 1) rfl
theorem d_F_readSquare_28 : decode b_F_readSquare 28 = .ok (.iload 6, 2) := dd_F_readSquare 15 (28, .iload 6, 2) rfl
theorem d_F_readSquare_30 : decode b_F_readSquare 30 = .ok (.iconst 1, 1) := dd_F_readSquare 16 (30, .iconst 1, 1) rfl
theorem d_F_readSquare_31 : decode b_F_readSquare 31 = .ok (.if_icmp .ne 17, 3) := dd_F_readSquare 17 (31, .if_icmp .ne 17, 3) rfl
theorem d_F_readSquare_34 : decode b_F_readSquare 34 = .ok (.aload_n 0, 1) := dd_F_readSquare 18 (34, .aload_n 0, 1) rfl
theorem d_F_readSquare_35 : decode b_F_readSquare 35 = .ok (.iload_n 1, 1) := dd_F_readSquare 19 (35, .iload_n 1, 1) rfl
theorem d_F_readSquare_36 : decode b_F_readSquare 36 = .ok (.iload_n 2, 1) := dd_F_readSquare 20 (36, .iload_n 2, 1) rfl
theorem d_F_readSquare_37 : decode b_F_readSquare 37 = .ok (.iload_n 3, 1) := dd_F_readSquare 21 (37, .iload_n 3, 1) rfl
theorem d_F_readSquare_38 : decode b_F_readSquare 38 = .ok (.iconst 2, 1) := dd_F_readSquare 22 (38, .iconst 2, 1) rfl
theorem d_F_readSquare_39 : decode b_F_readSquare 39 = .ok (.idiv, 1) := dd_F_readSquare 23 (39, .idiv, 1) rfl
theorem d_F_readSquare_40 : decode b_F_readSquare 40 = .ok (.iload 4, 2) := dd_F_readSquare 24 (40, .iload 4, 2) rfl
theorem d_F_readSquare_42 : decode b_F_readSquare 42 = .ok (.iload 5, 2) := dd_F_readSquare 25 (42, .iload 5, 2) rfl
theorem d_F_readSquare_44 : decode b_F_readSquare 44 = .ok (.invokevirtual 262, 3) := dd_F_readSquare 26 (44, .invokevirtual 262, 3) rfl
theorem d_F_readSquare_47 : decode b_F_readSquare 47 = .ok (.ireturn, 1) := dd_F_readSquare 27 (47, .ireturn, 1) rfl
theorem d_F_readSquare_48 : decode b_F_readSquare 48 = .ok (.aload_n 0, 1) := dd_F_readSquare 28 (48, .aload_n 0, 1) rfl
theorem d_F_readSquare_49 : decode b_F_readSquare 49 = .ok (.iload_n 3, 1) := dd_F_readSquare 29 (49, .iload_n 3, 1) rfl
theorem d_F_readSquare_50 : decode b_F_readSquare 50 = .ok (.invokevirtual 273, 3) := dd_F_readSquare 30 (50, .invokevirtual 273, 3) rfl
theorem d_F_readSquare_53 : decode b_F_readSquare 53 = .ok (.istore 7, 2) := dd_F_readSquare 31 (53, .istore 7, 2) rfl
theorem d_F_readSquare_55 : decode b_F_readSquare 55 = .ok (.iload 7, 2) := dd_F_readSquare 32 (55, .iload 7, 2) rfl
theorem d_F_readSquare_57 : decode b_F_readSquare 57 = .ok (.iconst (-1), 1) := dd_F_readSquare 33 (57, .iconst (-1), 1) rfl
theorem d_F_readSquare_58 : decode b_F_readSquare 58 = .ok (.if_icmp .ne 22, 3) := dd_F_readSquare 34 (58, .if_icmp .ne 22, 3) rfl
theorem d_F_readSquare_61 : decode b_F_readSquare 61 = .ok (.iload 5, 2) := dd_F_readSquare 35 (61, .iload 5, 2) rfl
theorem d_F_readSquare_63 : decode b_F_readSquare 63 = .ok (.ifCond .eq 17, 3) := dd_F_readSquare 36 (63, .ifCond .eq 17, 3) rfl
theorem d_F_readSquare_66 : decode b_F_readSquare 66 = .ok (.aload_n 0, 1) := dd_F_readSquare 37 (66, .aload_n 0, 1) rfl
theorem d_F_readSquare_67 : decode b_F_readSquare 67 = .ok (.getfield 60, 3) := dd_F_readSquare 38 (67, .getfield 60, 3) rfl
theorem d_F_readSquare_70 : decode b_F_readSquare 70 = .ok (.iload_n 1, 1) := dd_F_readSquare 39 (70, .iload_n 1, 1) rfl
theorem d_F_readSquare_71 : decode b_F_readSquare 71 = .ok (.iload_n 2, 1) := dd_F_readSquare 40 (71, .iload_n 2, 1) rfl
theorem d_F_readSquare_72 : decode b_F_readSquare 72 = .ok (.iload_n 3, 1) := dd_F_readSquare 41 (72, .iload_n 3, 1) rfl
theorem d_F_readSquare_73 : decode b_F_readSquare 73 = .ok (.aload_n 0, 1) := dd_F_readSquare 42 (73, .aload_n 0, 1) rfl
theorem d_F_readSquare_74 : decode b_F_readSquare 74 = .ok (.getfield 67, 3) := dd_F_readSquare 43 (74, .getfield 67, 3) rfl
theorem d_F_readSquare_77 : decode b_F_readSquare 77 = .ok (.invokevirtual 233, 3) := dd_F_readSquare 44 (77, .invokevirtual 233, 3) rfl
theorem d_F_readSquare_80 : decode b_F_readSquare 80 = .ok (.iload 7, 2) := dd_F_readSquare 45 (80, .iload 7, 2) rfl
theorem d_F_readSquare_82 : decode b_F_readSquare 82 = .ok (.ireturn, 1) := dd_F_readSquare 46 (82, .ireturn, 1) rfl
def tb_F_readFit : List (Nat × Instr × Nat) := [(0, .aload_n 0, 1), (1, .getfield 78, 3), (4, .aload_n 0, 1), (5, .iload_n 1, 1), (6, .invokevirtual 244, 3), (9, .invokevirtual 259, 3), (12, .istore_n 2, 1), (13, .iload_n 2, 1), (14, .iconst (-1), 1), (15, .if_icmp .ne 5, 3), (18, .iconst 3, 1), (19, .ireturn, 1), (20, .iload_n 2, 1), (21, .aload_n 0, 1), (22, .getfield 16, 3), (25, .iload_n 1, 1), (26, .invokestatic 192, 3), (29, .if_icmp .lt 5, 3), (32, .iconst 1, 1), (33, .ireturn, 1), (34, .aload_n 0, 1), (35, .getfield 78, 3), (38, .iconst 3, 1), (39, .invokevirtual 259, 3), (42, .istore_n 3, 1), (43, .iload_n 3, 1), (44, .iconst (-1), 1), (45, .if_icmp .ne 5, 3), (48, .iconst 3, 1), (49, .ireturn, 1), (50, .aload_n 0, 1), (51, .getfield 78, 3), (54, .iconst 4, 1), (55, .invokevirtual 259, 3), (58, .istore 4, 2), (60, .iload 4, 2), (62, .iconst (-1), 1), (63, .if_icmp .ne 5, 3), (66, .iconst 3, 1), (67, .ireturn, 1), (68, .iload 4, 2), (70, .bipush 7, 2), (72, .isub, 1), (73, .bipush 7, 2), (75, .if_icmp .le 5, 3), (78, .iconst 2, 1), (79, .ireturn, 1), (80, .aload_n 0, 1), (81, .getfield 78, 3), (84, .bipush 10, 2), (86, .invokevirtual 259, 3), (89, .istore 5, 2), (91, .iload 5, 2), (93, .iconst (-1), 1), (94, .if_icmp .ne 5, 3), (97, .iconst 3, 1), (98, .ireturn, 1), (99, .aload_n 0, 1), (100, .getfield 67, 3), (103, .iload_n 2, 1), (104, .iload_n 3, 1), (105, .iload 4, 2), (107, .bipush 7, 2), (109, .isub, 1), (110, .iload 5, 2), (112, .sipush 256, 3), (115, .isub, 1), (116, .iconst (-1), 1), (117, .invokevirtual 276, 3), (120, .iconst (-1), 1), (121, .ireturn, 1)]
theorem dd_F_readFit : ∀ (i : Nat) (q : Nat × Instr × Nat), tb_F_readFit[i]? = some q → decode b_F_readFit q.1 = .ok (q.2.1, q.2.2) := z_tab (by decide +kernel)
theorem d_F_readFit_0 : decode b_F_readFit 0 = .ok (.aload_n 0, 1) := dd_F_readFit 0 (0, .aload_n 0, 1) rfl
theorem d_F_readFit_1 : decode b_F_readFit 1 = .ok (.getfield 78, 3) := dd_F_readFit 1 (1, .getfield 78, 3) rfl
theorem d_F_readFit_4 : decode b_F_readFit 4 = .ok (.aload_n 0, 1) := dd_F_readFit 2 (4, .aload_n 0, 1) rfl
theorem d_F_readFit_5 : decode b_F_readFit 5 = .ok (.iload_n 1, 1) := dd_F_readFit 3 (5, .iload_n 1, 1) rfl
theorem d_F_readFit_6 : decode b_F_readFit 6 = .ok (.invokevirtual 244, 3) := dd_F_readFit 4 (6, .invokevirtual 244, 3) rfl
theorem d_F_readFit_9 : decode b_F_readFit 9 = .ok (.invokevirtual 259, 3) := dd_F_readFit 5 (9, .invokevirtual 259, 3) rfl
theorem d_F_readFit_12 : decode b_F_readFit 12 = .ok (.istore_n 2, 1) := dd_F_readFit 6 (12, .istore_n 2, 1) rfl
theorem d_F_readFit_13 : decode b_F_readFit 13 = .ok (.iload_n 2, 1) := dd_F_readFit 7 (13, .iload_n 2, 1) rfl
theorem d_F_readFit_14 : decode b_F_readFit 14 = .ok (.iconst (-1), 1) := dd_F_readFit 8 (14, .iconst (-1), 1) rfl
theorem d_F_readFit_15 : decode b_F_readFit 15 = .ok (.if_icmp .ne 5, 3) := dd_F_readFit 9 (15, .if_icmp .ne 5, 3) rfl
theorem d_F_readFit_18 : decode b_F_readFit 18 = .ok (.iconst 3, 1) := dd_F_readFit 10 (18, .iconst 3, 1) rfl
theorem d_F_readFit_19 : decode b_F_readFit 19 = .ok (.ireturn, 1) := dd_F_readFit 11 (19, .ireturn, 1) rfl
theorem d_F_readFit_20 : decode b_F_readFit 20 = .ok (.iload_n 2, 1) := dd_F_readFit 12 (20, .iload_n 2, 1) rfl
theorem d_F_readFit_21 : decode b_F_readFit 21 = .ok (.aload_n 0, 1) := dd_F_readFit 13 (21, .aload_n 0, 1) rfl
theorem d_F_readFit_22 : decode b_F_readFit 22 = .ok (.getfield 16, 3) := dd_F_readFit 14 (22, .getfield 16, 3) rfl
theorem d_F_readFit_25 : decode b_F_readFit 25 = .ok (.iload_n 1, 1) := dd_F_readFit 15 (25, .iload_n 1, 1) rfl
theorem d_F_readFit_26 : decode b_F_readFit 26 = .ok (.invokestatic 192, 3) := dd_F_readFit 16 (26, .invokestatic 192, 3) rfl
theorem d_F_readFit_29 : decode b_F_readFit 29 = .ok (.if_icmp .lt 5, 3) := dd_F_readFit 17 (29, .if_icmp .lt 5, 3) rfl
theorem d_F_readFit_32 : decode b_F_readFit 32 = .ok (.iconst 1, 1) := dd_F_readFit 18 (32, .iconst 1, 1) rfl
theorem d_F_readFit_33 : decode b_F_readFit 33 = .ok (.ireturn, 1) := dd_F_readFit 19 (33, .ireturn, 1) rfl
theorem d_F_readFit_34 : decode b_F_readFit 34 = .ok (.aload_n 0, 1) := dd_F_readFit 20 (34, .aload_n 0, 1) rfl
theorem d_F_readFit_35 : decode b_F_readFit 35 = .ok (.getfield 78, 3) := dd_F_readFit 21 (35, .getfield 78, 3) rfl
theorem d_F_readFit_38 : decode b_F_readFit 38 = .ok (.iconst 3, 1) := dd_F_readFit 22 (38, .iconst 3, 1) rfl
theorem d_F_readFit_39 : decode b_F_readFit 39 = .ok (.invokevirtual 259, 3) := dd_F_readFit 23 (39, .invokevirtual 259, 3) rfl
theorem d_F_readFit_42 : decode b_F_readFit 42 = .ok (.istore_n 3, 1) := dd_F_readFit 24 (42, .istore_n 3, 1) rfl
theorem d_F_readFit_43 : decode b_F_readFit 43 = .ok (.iload_n 3, 1) := dd_F_readFit 25 (43, .iload_n 3, 1) rfl
theorem d_F_readFit_44 : decode b_F_readFit 44 = .ok (.iconst (-1), 1) := dd_F_readFit 26 (44, .iconst (-1), 1) rfl
theorem d_F_readFit_45 : decode b_F_readFit 45 = .ok (.if_icmp .ne 5, 3) := dd_F_readFit 27 (45, .if_icmp .ne 5, 3) rfl
theorem d_F_readFit_48 : decode b_F_readFit 48 = .ok (.iconst 3, 1) := dd_F_readFit 28 (48, .iconst 3, 1) rfl
theorem d_F_readFit_49 : decode b_F_readFit 49 = .ok (.ireturn, 1) := dd_F_readFit 29 (49, .ireturn, 1) rfl
theorem d_F_readFit_50 : decode b_F_readFit 50 = .ok (.aload_n 0, 1) := dd_F_readFit 30 (50, .aload_n 0, 1) rfl
theorem d_F_readFit_51 : decode b_F_readFit 51 = .ok (.getfield 78, 3) := dd_F_readFit 31 (51, .getfield 78, 3) rfl
theorem d_F_readFit_54 : decode b_F_readFit 54 = .ok (.iconst 4, 1) := dd_F_readFit 32 (54, .iconst 4, 1) rfl
theorem d_F_readFit_55 : decode b_F_readFit 55 = .ok (.invokevirtual 259, 3) := dd_F_readFit 33 (55, .invokevirtual 259, 3) rfl
theorem d_F_readFit_58 : decode b_F_readFit 58 = .ok (.istore 4, 2) := dd_F_readFit 34 (58, .istore 4, 2) rfl
theorem d_F_readFit_60 : decode b_F_readFit 60 = .ok (.iload 4, 2) := dd_F_readFit 35 (60, .iload 4, 2) rfl
theorem d_F_readFit_62 : decode b_F_readFit 62 = .ok (.iconst (-1), 1) := dd_F_readFit 36 (62, .iconst (-1), 1) rfl
theorem d_F_readFit_63 : decode b_F_readFit 63 = .ok (.if_icmp .ne 5, 3) := dd_F_readFit 37 (63, .if_icmp .ne 5, 3) rfl
theorem d_F_readFit_66 : decode b_F_readFit 66 = .ok (.iconst 3, 1) := dd_F_readFit 38 (66, .iconst 3, 1) rfl
theorem d_F_readFit_67 : decode b_F_readFit 67 = .ok (.ireturn, 1) := dd_F_readFit 39 (67, .ireturn, 1) rfl
theorem d_F_readFit_68 : decode b_F_readFit 68 = .ok (.iload 4, 2) := dd_F_readFit 40 (68, .iload 4, 2) rfl
theorem d_F_readFit_70 : decode b_F_readFit 70 = .ok (.bipush 7, 2) := dd_F_readFit 41 (70, .bipush 7, 2) rfl
theorem d_F_readFit_72 : decode b_F_readFit 72 = .ok (.isub, 1) := dd_F_readFit 42 (72, .isub, 1) rfl
theorem d_F_readFit_73 : decode b_F_readFit 73 = .ok (.bipush 7, 2) := dd_F_readFit 43 (73, .bipush 7, 2) rfl
theorem d_F_readFit_75 : decode b_F_readFit 75 = .ok (.if_icmp .le 5, 3) := dd_F_readFit 44 (75, .if_icmp .le 5, 3) rfl
theorem d_F_readFit_78 : decode b_F_readFit 78 = .ok (.iconst 2, 1) := dd_F_readFit 45 (78, .iconst 2, 1) rfl
theorem d_F_readFit_79 : decode b_F_readFit 79 = .ok (.ireturn, 1) := dd_F_readFit 46 (79, .ireturn, 1) rfl
theorem d_F_readFit_80 : decode b_F_readFit 80 = .ok (.aload_n 0, 1) := dd_F_readFit 47 (80, .aload_n 0, 1) rfl
theorem d_F_readFit_81 : decode b_F_readFit 81 = .ok (.getfield 78, 3) := dd_F_readFit 48 (81, .getfield 78, 3) rfl
theorem d_F_readFit_84 : decode b_F_readFit 84 = .ok (.bipush 10, 2) := dd_F_readFit 49 (84, .bipush 10, 2) rfl
theorem d_F_readFit_86 : decode b_F_readFit 86 = .ok (.invokevirtual 259, 3) := dd_F_readFit 50 (86, .invokevirtual 259, 3) rfl
theorem d_F_readFit_89 : decode b_F_readFit 89 = .ok (.istore 5, 2) := dd_F_readFit 51 (89, .istore 5, 2) rfl
theorem d_F_readFit_91 : decode b_F_readFit 91 = .ok (.iload 5, 2) := dd_F_readFit 52 (91, .iload 5, 2) rfl
theorem d_F_readFit_93 : decode b_F_readFit 93 = .ok (.iconst (-1), 1) := dd_F_readFit 53 (93, .iconst (-1), 1) rfl
theorem d_F_readFit_94 : decode b_F_readFit 94 = .ok (.if_icmp .ne 5, 3) := dd_F_readFit 54 (94, .if_icmp .ne 5, 3) rfl
theorem d_F_readFit_97 : decode b_F_readFit 97 = .ok (.iconst 3, 1) := dd_F_readFit 55 (97, .iconst 3, 1) rfl
theorem d_F_readFit_98 : decode b_F_readFit 98 = .ok (.ireturn, 1) := dd_F_readFit 56 (98, .ireturn, 1) rfl
theorem d_F_readFit_99 : decode b_F_readFit 99 = .ok (.aload_n 0, 1) := dd_F_readFit 57 (99, .aload_n 0, 1) rfl
theorem d_F_readFit_100 : decode b_F_readFit 100 = .ok (.getfield 67, 3) := dd_F_readFit 58 (100, .getfield 67, 3) rfl
theorem d_F_readFit_103 : decode b_F_readFit 103 = .ok (.iload_n 2, 1) := dd_F_readFit 59 (103, .iload_n 2, 1) rfl
theorem d_F_readFit_104 : decode b_F_readFit 104 = .ok (.iload_n 3, 1) := dd_F_readFit 60 (104, .iload_n 3, 1) rfl
theorem d_F_readFit_105 : decode b_F_readFit 105 = .ok (.iload 4, 2) := dd_F_readFit 61 (105, .iload 4, 2) rfl
theorem d_F_readFit_107 : decode b_F_readFit 107 = .ok (.bipush 7, 2) := dd_F_readFit 62 (107, .bipush 7, 2) rfl
theorem d_F_readFit_109 : decode b_F_readFit 109 = .ok (.isub, 1) := dd_F_readFit 63 (109, .isub, 1) rfl
theorem d_F_readFit_110 : decode b_F_readFit 110 = .ok (.iload 5, 2) := dd_F_readFit 64 (110, .iload 5, 2) rfl
theorem d_F_readFit_112 : decode b_F_readFit 112 = .ok (.sipush 256, 3) := dd_F_readFit 65 (112, .sipush 256, 3) rfl
theorem d_F_readFit_115 : decode b_F_readFit 115 = .ok (.isub, 1) := dd_F_readFit 66 (115, .isub, 1) rfl
theorem d_F_readFit_116 : decode b_F_readFit 116 = .ok (.iconst (-1), 1) := dd_F_readFit 67 (116, .iconst (-1), 1) rfl
theorem d_F_readFit_117 : decode b_F_readFit 117 = .ok (.invokevirtual 276, 3) := dd_F_readFit 68 (117, .invokevirtual 276, 3) rfl
theorem d_F_readFit_120 : decode b_F_readFit 120 = .ok (.iconst (-1), 1) := dd_F_readFit 69 (120, .iconst (-1), 1) rfl
theorem d_F_readFit_121 : decode b_F_readFit 121 = .ok (.ireturn, 1) := dd_F_readFit 70 (121, .ireturn, 1) rfl
def tb_F_decodeRound : List (Nat × Instr × Nat) := [(0, .aload_n 0, 1), (1, .getfield 34, 3), (4, .aload_n 0, 1), (5, .getfield 31, 3), (8, .invokevirtual 199, 3), (11, .iconst 0, 1), (12, .istore_n 2, 1), (13, .iconst 0, 1), (14, .istore_n 3, 1), (15, .iload_n 3, 1), (16, .aload_n 0, 1), (17, .getfield 60, 3), (20, .getfield 136, 3), (23, .if_icmp .ge 20, 3), (26, .iload_n 2, 1), (27, .aload_n 0, 1), (28, .iload_n 3, 1), (29, .iload_n 1, 1), (30, .invokevirtual 278, 3), (33, .invokestatic 13, 3), (36, .istore_n 2, 1), (37, .iinc 3 1, 3), (40, .goto (-25), 3), (43, .iload_n 2, 1), (44, .ireturn, 1)]
theorem dd_F_decodeRound : ∀ (i : Nat) (q : Nat × Instr × Nat), tb_F_decodeRound[i]? = some q → decode b_F_decodeRound q.1 = .ok (q.2.1, q.2.2) := z_tab (by decide +kernel)
theorem d_F_decodeRound_0 : decode b_F_decodeRound 0 = .ok (.aload_n 0, 1) := dd_F_decodeRound 0 (0, .aload_n 0, 1) rfl
theorem d_F_decodeRound_1 : decode b_F_decodeRound 1 = .ok (.getfield 34, 3) := dd_F_decodeRound 1 (1, .getfield 34, 3) rfl
theorem d_F_decodeRound_4 : decode b_F_decodeRound 4 = .ok (.aload_n 0, 1) := dd_F_decodeRound 2 (4, .aload_n 0, 1) rfl
theorem d_F_decodeRound_5 : decode b_F_decodeRound 5 = .ok (.getfield 31, 3) := dd_F_decodeRound 3 (5, .getfield 31, 3) rfl
theorem d_F_decodeRound_8 : decode b_F_decodeRound 8 = .ok (.invokevirtual 199, 3) := dd_F_decodeRound 4 (8, .invokevirtual 199, 3) rfl
theorem d_F_decodeRound_11 : decode b_F_decodeRound 11 = .ok (.iconst 0, 1) := dd_F_decodeRound 5 (11, .iconst 0, 1) rfl
theorem d_F_decodeRound_12 : decode b_F_decodeRound 12 = .ok (.istore_n 2, 1) := dd_F_decodeRound 6 (12, .istore_n 2, 1) rfl
theorem d_F_decodeRound_13 : decode b_F_decodeRound 13 = .ok (.iconst 0, 1) := dd_F_decodeRound 7 (13, .iconst 0, 1) rfl
theorem d_F_decodeRound_14 : decode b_F_decodeRound 14 = .ok (.istore_n 3, 1) := dd_F_decodeRound 8 (14, .istore_n 3, 1) rfl
theorem d_F_decodeRound_15 : decode b_F_decodeRound 15 = .ok (.iload_n 3, 1) := dd_F_decodeRound 9 (15, .iload_n 3, 1) rfl
theorem d_F_decodeRound_16 : decode b_F_decodeRound 16 = .ok (.aload_n 0, 1) := dd_F_decodeRound 10 (16, .aload_n 0, 1) rfl
theorem d_F_decodeRound_17 : decode b_F_decodeRound 17 = .ok (.getfield 60, 3) := dd_F_decodeRound 11 (17, .getfield 60, 3) rfl
theorem d_F_decodeRound_20 : decode b_F_decodeRound 20 = .ok (.getfield 136, 3) := dd_F_decodeRound 12 (20, .getfield 136, 3) rfl
theorem d_F_decodeRound_23 : decode b_F_decodeRound 23 = .ok (.if_icmp .ge 20, 3) := dd_F_decodeRound 13 (23, .if_icmp .ge 20, 3) rfl
theorem d_F_decodeRound_26 : decode b_F_decodeRound 26 = .ok (.iload_n 2, 1) := dd_F_decodeRound 14 (26, .iload_n 2, 1) rfl
theorem d_F_decodeRound_27 : decode b_F_decodeRound 27 = .ok (.aload_n 0, 1) := dd_F_decodeRound 15 (27, .aload_n 0, 1) rfl
theorem d_F_decodeRound_28 : decode b_F_decodeRound 28 = .ok (.iload_n 3, 1) := dd_F_decodeRound 16 (28, .iload_n 3, 1) rfl
theorem d_F_decodeRound_29 : decode b_F_decodeRound 29 = .ok (.iload_n 1, 1) := dd_F_decodeRound 17 (29, .iload_n 1, 1) rfl
theorem d_F_decodeRound_30 : decode b_F_decodeRound 30 = .ok (.invokevirtual 278, 3) := dd_F_decodeRound 18 (30, .invokevirtual 278, 3) rfl
theorem d_F_decodeRound_33 : decode b_F_decodeRound 33 = .ok (.invokestatic 13, 3) := dd_F_decodeRound 19 (33, .invokestatic 13, 3) rfl
theorem d_F_decodeRound_36 : decode b_F_decodeRound 36 = .ok (.istore_n 2, 1) := dd_F_decodeRound 20 (36, .istore_n 2, 1) rfl
theorem d_F_decodeRound_37 : decode b_F_decodeRound 37 = .ok (.iinc 3 1, 3) := dd_F_decodeRound 21 (37, .iinc 3 1, 3) rfl
theorem d_F_decodeRound_40 : decode b_F_decodeRound 40 = .ok (.goto (-25), 3) := dd_F_decodeRound 22 (40, .goto (-25), 3) rfl
theorem d_F_decodeRound_43 : decode b_F_decodeRound 43 = .ok (.iload_n 2, 1) := dd_F_decodeRound 23 (43, .iload_n 2, 1) rfl
theorem d_F_decodeRound_44 : decode b_F_decodeRound 44 = .ok (.ireturn, 1) := dd_F_decodeRound 24 (44, .ireturn, 1) rfl
def tb_F_decodeBlock : List (Nat × Instr × Nat) := [(0, .aload_n 0, 1), (1, .getfield 60, 3), (4, .iload_n 1, 1), (5, .iconst 0, 1), (6, .invokevirtual 143, 3), (9, .iload_n 2, 1), (10, .ishl, 1), (11, .istore_n 3, 1), (12, .aload_n 0, 1), (13, .getfield 60, 3), (16, .iload_n 1, 1), (17, .iconst 1, 1), (18, .invokevirtual 143, 3), (21, .iload_n 2, 1), (22, .ishl, 1), (23, .istore 4, 2), (25, .aload_n 0, 1), (26, .getfield 60, 3), (29, .iload_n 1, 1), (30, .iconst 2, 1), (31, .invokevirtual 143, 3), (34, .iload_n 2, 1), (35, .ishl, 1), (36, .istore 5, 2), (38, .aload_n 0, 1), (39, .getfield 60, 3), (42, .iload_n 1, 1), (43, .iconst 5, 1), (44, .invokevirtual 143, 3), (47, .istore 6, 2), (49, .aload_n 0, 1), (50, .getfield 60, 3), (53, .iload_n 1, 1), (54, .bipush 6, 2), (56, .invokevirtual 143, 3), (59, .istore 7, 2), (61, .aload_n 0, 1), (62, .getfield 42, 3), (65, .iload 5, 2), (67, .aload_n 0, 1), (68, .getfield 60, 3), (71, .iload_n 1, 1), (72, .iconst 3, 1), (73, .invokevirtual 143, 3), (76, .aload_n 0, 1), (77, .getfield 60, 3), (80, .iload_n 1, 1), (81, .iconst 4, 1), (82, .invokevirtual 143, 3), (85, .invokevirtual 202, 3), (88, .iconst 0, 1), (89, .istore 8, 2), (91, .iconst 0, 1), (92, .istore 9, 2), (94, .iload 9, 2), (96, .iload 5, 2), (98, .if_icmp .ge 106, 3), (101, .iconst 0, 1), (102, .istore 10, 2), (104, .iload 10, 2), (106, .iload 5, 2), (108, .if_icmp .ge 90, 3), (111, .aload_n 0, 1), (112, .getfield 42, 3), (115, .iload 10, 2), (117, .iload 9, 2), (119, .invokevirtual 205, 3), (122, .iload 6, 2), (124, .invokestatic 281, 3), (127, .iload 7, 2), (129, .iadd, 1), (130, .istore 11, 2), (132, .iload 11, 2), (134, .i2l, 1), (135, .lconst 0, 1), (136, .ldc2_w 104, 3), (139, .invokestatic 106, 3), (142, .l2i, 1), (143, .istore 12, 2), (145, .iload 8, 2), (147, .iload 12, 2), (149, .aload_n 0, 1), (150, .getfield 31, 3), (153, .iload_n 3, 1), (154, .iload 10, 2), (156, .iadd, 1), (157, .iload 4, 2), (159, .iload 9, 2), (161, .iadd, 1), (162, .invokevirtual 97, 3), (165, .isub, 1), (166, .invokestatic 284, 3), (169, .invokestatic 13, 3), (172, .istore 8, 2), (174, .aload_n 0, 1), (175, .getfield 31, 3), (178, .iload_n 3, 1), (179, .iload 10, 2), (181, .iadd, 1), (182, .iload 4, 2), (184, .iload 9, 2), (186, .iadd, 1), (187, .iload 12, 2), (189, .invokevirtual 100, 3), (192, .iinc 10 1, 3), (195, .goto (-91), 3), (198, .iinc 9 1, 3), (201, .goto (-107), 3), (204, .iload 8, 2), (206, .ireturn, 1)]
theorem dd_F_decodeBlock : ∀ (i : Nat) (q : Nat × Instr × Nat), tb_F_decodeBlock[i]? = some q → decode b_F_decodeBlock q.1 = .ok (q.2.1, q.2.2) := z_tab (by decide +kernel)
theorem d_F_decodeBlock_0 : decode b_F_decodeBlock 0 = .ok (.aload_n 0, 1) := dd_F_decodeBlock 0 (0, .aload_n 0, 1) rfl
theorem d_F_decodeBlock_1 : decode b_F_decodeBlock 1 = .ok (.getfield 60, 3) := dd_F_decodeBlock 1 (1, .getfield 60, 3) rfl
theorem d_F_decodeBlock_4 : decode b_F_decodeBlock 4 = .ok (.iload_n 1, 1) := dd_F_decodeBlock 2 (4, .iload_n 1, 1) rfl
theorem d_F_decodeBlock_5 : decode b_F_decodeBlock 5 = .ok (.iconst 0, 1) := dd_F_decodeBlock 3 (5, .iconst 0, 1) rfl
theorem d_F_decodeBlock_6 : decode b_F_decodeBlock 6 = .ok (.invokevirtual 143, 3) := dd_F_decodeBlock 4 (6, .invokevirtual 143, 3) rfl
theorem d_F_decodeBlock_9 : decode b_F_decodeBlock 9 = .ok (.iload_n 2, 1) := dd_F_decodeBlock 5 (9, .iload_n 2, 1) rfl
theorem d_F_decodeBlock_10 : decode b_F_decodeBlock 10 = .ok (.ishl, 1) := dd_F_decodeBlock 6 (10, .ishl, 1) rfl
theorem d_F_decodeBlock_11 : decode b_F_decodeBlock 11 = .ok (.istore_n 3, 1) := dd_F_decodeBlock 7 (11, .istore_n 3, 1) rfl
theorem d_F_decodeBlock_12 : decode b_F_decodeBlock 12 = .ok (.aload_n 0, 1) := dd_F_decodeBlock 8 (12, .aload_n 0, 1) rfl
theorem d_F_decodeBlock_13 : decode b_F_decodeBlock 13 = .ok (.getfield 60, 3) := dd_F_decodeBlock 9 (13, .getfield 60, 3) rfl
theorem d_F_decodeBlock_16 : decode b_F_decodeBlock 16 = .ok (.iload_n 1, 1) := dd_F_decodeBlock 10 (16, .iload_n 1, 1) rfl
theorem d_F_decodeBlock_17 : decode b_F_decodeBlock 17 = .ok (.iconst 1, 1) := dd_F_decodeBlock 11 (17, .iconst 1, 1) rfl
theorem d_F_decodeBlock_18 : decode b_F_decodeBlock 18 = .ok (.invokevirtual 143, 3) := dd_F_decodeBlock 12 (18, .invokevirtual 143, 3) rfl
theorem d_F_decodeBlock_21 : decode b_F_decodeBlock 21 = .ok (.iload_n 2, 1) := dd_F_decodeBlock 13 (21, .iload_n 2, 1) rfl
theorem d_F_decodeBlock_22 : decode b_F_decodeBlock 22 = .ok (.ishl, 1) := dd_F_decodeBlock 14 (22, .ishl, 1) rfl
theorem d_F_decodeBlock_23 : decode b_F_decodeBlock 23 = .ok (.istore 4, 2) := dd_F_decodeBlock 15 (23, .istore 4, 2) rfl
theorem d_F_decodeBlock_25 : decode b_F_decodeBlock 25 = .ok (.aload_n 0, 1) := dd_F_decodeBlock 16 (25, .aload_n 0, 1) rfl
theorem d_F_decodeBlock_26 : decode b_F_decodeBlock 26 = .ok (.getfield 60, 3) := dd_F_decodeBlock 17 (26, .getfield 60, 3) rfl
theorem d_F_decodeBlock_29 : decode b_F_decodeBlock 29 = .ok (.iload_n 1, 1) := dd_F_decodeBlock 18 (29, .iload_n 1, 1) rfl
theorem d_F_decodeBlock_30 : decode b_F_decodeBlock 30 = .ok (.iconst 2, 1) := dd_F_decodeBlock 19 (30, .iconst 2, 1) rfl
theorem d_F_decodeBlock_31 : decode b_F_decodeBlock 31 = .ok (.invokevirtual 143, 3) := dd_F_decodeBlock 20 (31, .invokevirtual 143, 3) rfl
theorem d_F_decodeBlock_34 : decode b_F_decodeBlock 34 = .ok (.iload_n 2, 1) := dd_F_decodeBlock 21 (34, .iload_n 2, 1) rfl
theorem d_F_decodeBlock_35 : decode b_F_decodeBlock 35 = .ok (.ishl, 1) := dd_F_decodeBlock 22 (35, .ishl, 1) rfl
theorem d_F_decodeBlock_36 : decode b_F_decodeBlock 36 = .ok (.istore 5, 2) := dd_F_decodeBlock 23 (36, .istore 5, 2) rfl
theorem d_F_decodeBlock_38 : decode b_F_decodeBlock 38 = .ok (.aload_n 0, 1) := dd_F_decodeBlock 24 (38, .aload_n 0, 1) rfl
theorem d_F_decodeBlock_39 : decode b_F_decodeBlock 39 = .ok (.getfield 60, 3) := dd_F_decodeBlock 25 (39, .getfield 60, 3) rfl
theorem d_F_decodeBlock_42 : decode b_F_decodeBlock 42 = .ok (.iload_n 1, 1) := dd_F_decodeBlock 26 (42, .iload_n 1, 1) rfl
theorem d_F_decodeBlock_43 : decode b_F_decodeBlock 43 = .ok (.iconst 5, 1) := dd_F_decodeBlock 27 (43, .iconst 5, 1) rfl
theorem d_F_decodeBlock_44 : decode b_F_decodeBlock 44 = .ok (.invokevirtual 143, 3) := dd_F_decodeBlock 28 (44, .invokevirtual 143, 3) rfl
theorem d_F_decodeBlock_47 : decode b_F_decodeBlock 47 = .ok (.istore 6, 2) := dd_F_decodeBlock 29 (47, .istore 6, 2) rfl
theorem d_F_decodeBlock_49 : decode b_F_decodeBlock 49 = .ok (.aload_n 0, 1) := dd_F_decodeBlock 30 (49, .aload_n 0, 1) rfl
theorem d_F_decodeBlock_50 : decode b_F_decodeBlock 50 = .ok (.getfield 60, 3) := dd_F_decodeBlock 31 (50, .getfield 60, 3) rfl
theorem d_F_decodeBlock_53 : decode b_F_decodeBlock 53 = .ok (.iload_n 1, 1) := dd_F_decodeBlock 32 (53, .iload_n 1, 1) rfl
theorem d_F_decodeBlock_54 : decode b_F_decodeBlock 54 = .ok (.bipush 6, 2) := dd_F_decodeBlock 33 (54, .bipush 6, 2) rfl
theorem d_F_decodeBlock_56 : decode b_F_decodeBlock 56 = .ok (.invokevirtual 143, 3) := dd_F_decodeBlock 34 (56, .invokevirtual 143, 3) rfl
theorem d_F_decodeBlock_59 : decode b_F_decodeBlock 59 = .ok (.istore 7, 2) := dd_F_decodeBlock 35 (59, .istore 7, 2) rfl
theorem d_F_decodeBlock_61 : decode b_F_decodeBlock 61 = .ok (.aload_n 0, 1) := dd_F_decodeBlock 36 (61, .aload_n 0, 1) rfl
theorem d_F_decodeBlock_62 : decode b_F_decodeBlock 62 = .ok (.getfield 42, 3) := dd_F_decodeBlock 37 (62, .getfield 42, 3) rfl
theorem d_F_decodeBlock_65 : decode b_F_decodeBlock 65 = .ok (.iload 5, 2) := dd_F_decodeBlock 38 (65, .iload 5, 2) rfl
theorem d_F_decodeBlock_67 : decode b_F_decodeBlock 67 = .ok (.aload_n 0, 1) := dd_F_decodeBlock 39 (67, .aload_n 0, 1) rfl
theorem d_F_decodeBlock_68 : decode b_F_decodeBlock 68 = .ok (.getfield 60, 3) := dd_F_decodeBlock 40 (68, .getfield 60, 3) rfl
theorem d_F_decodeBlock_71 : decode b_F_decodeBlock 71 = .ok (.iload_n 1, 1) := dd_F_decodeBlock 41 (71, .iload_n 1, 1) rfl
theorem d_F_decodeBlock_72 : decode b_F_decodeBlock 72 = .ok (.iconst 3, 1) := dd_F_decodeBlock 42 (72, .iconst 3, 1) rfl
theorem d_F_decodeBlock_73 : decode b_F_decodeBlock 73 = .ok (.invokevirtual 143, 3) := dd_F_decodeBlock 43 (73, .invokevirtual 143, 3) rfl
theorem d_F_decodeBlock_76 : decode b_F_decodeBlock 76 = .ok (.aload_n 0, 1) := dd_F_decodeBlock 44 (76, .aload_n 0, 1) rfl
theorem d_F_decodeBlock_77 : decode b_F_decodeBlock 77 = .ok (.getfield 60, 3) := dd_F_decodeBlock 45 (77, .getfield 60, 3) rfl
theorem d_F_decodeBlock_80 : decode b_F_decodeBlock 80 = .ok (.iload_n 1, 1) := dd_F_decodeBlock 46 (80, .iload_n 1, 1) rfl
theorem d_F_decodeBlock_81 : decode b_F_decodeBlock 81 = .ok (.iconst 4, 1) := dd_F_decodeBlock 47 (81, .iconst 4, 1) rfl
theorem d_F_decodeBlock_82 : decode b_F_decodeBlock 82 = .ok (.invokevirtual 143, 3) := dd_F_decodeBlock 48 (82, .invokevirtual 143, 3) rfl
theorem d_F_decodeBlock_85 : decode b_F_decodeBlock 85 = .ok (.invokevirtual 202, 3) := dd_F_decodeBlock 49 (85, .invokevirtual 202, 3) rfl
theorem d_F_decodeBlock_88 : decode b_F_decodeBlock 88 = .ok (.iconst 0, 1) := dd_F_decodeBlock 50 (88, .iconst 0, 1) rfl
theorem d_F_decodeBlock_89 : decode b_F_decodeBlock 89 = .ok (.istore 8, 2) := dd_F_decodeBlock 51 (89, .istore 8, 2) rfl
theorem d_F_decodeBlock_91 : decode b_F_decodeBlock 91 = .ok (.iconst 0, 1) := dd_F_decodeBlock 52 (91, .iconst 0, 1) rfl
theorem d_F_decodeBlock_92 : decode b_F_decodeBlock 92 = .ok (.istore 9, 2) := dd_F_decodeBlock 53 (92, .istore 9, 2) rfl
theorem d_F_decodeBlock_94 : decode b_F_decodeBlock 94 = .ok (.iload 9, 2) := dd_F_decodeBlock 54 (94, .iload 9, 2) rfl
theorem d_F_decodeBlock_96 : decode b_F_decodeBlock 96 = .ok (.iload 5, 2) := dd_F_decodeBlock 55 (96, .iload 5, 2) rfl
theorem d_F_decodeBlock_98 : decode b_F_decodeBlock 98 = .ok (.if_icmp .ge 106, 3) := dd_F_decodeBlock 56 (98, .if_icmp .ge 106, 3) rfl
theorem d_F_decodeBlock_101 : decode b_F_decodeBlock 101 = .ok (.iconst 0, 1) := dd_F_decodeBlock 57 (101, .iconst 0, 1) rfl
theorem d_F_decodeBlock_102 : decode b_F_decodeBlock 102 = .ok (.istore 10, 2) := dd_F_decodeBlock 58 (102, .istore 10, 2) rfl
theorem d_F_decodeBlock_104 : decode b_F_decodeBlock 104 = .ok (.iload 10, 2) := dd_F_decodeBlock 59 (104, .iload 10, 2) rfl
theorem d_F_decodeBlock_106 : decode b_F_decodeBlock 106 = .ok (.iload 5, 2) := dd_F_decodeBlock 60 (106, .iload 5, 2) rfl
theorem d_F_decodeBlock_108 : decode b_F_decodeBlock 108 = .ok (.if_icmp .ge 90, 3) := dd_F_decodeBlock 61 (108, .if_icmp .ge 90, 3) rfl
theorem d_F_decodeBlock_111 : decode b_F_decodeBlock 111 = .ok (.aload_n 0, 1) := dd_F_decodeBlock 62 (111, .aload_n 0, 1) rfl
theorem d_F_decodeBlock_112 : decode b_F_decodeBlock 112 = .ok (.getfield 42, 3) := dd_F_decodeBlock 63 (112, .getfield 42, 3) rfl
theorem d_F_decodeBlock_115 : decode b_F_decodeBlock 115 = .ok (.iload 10, 2) := dd_F_decodeBlock 64 (115, .iload 10, 2) rfl
theorem d_F_decodeBlock_117 : decode b_F_decodeBlock 117 = .ok (.iload 9, 2) := dd_F_decodeBlock 65 (117, .iload 9, 2) rfl
theorem d_F_decodeBlock_119 : decode b_F_decodeBlock 119 = .ok (.invokevirtual 205, 3) := dd_F_decodeBlock 66 (119, .invokevirtual 205, 3) rfl
theorem d_F_decodeBlock_122 : decode b_F_decodeBlock 122 = .ok (.iload 6, 2) := dd_F_decodeBlock 67 (122, .iload 6, 2) rfl
theorem d_F_decodeBlock_124 : decode b_F_decodeBlock 124 = .ok (.invokestatic 281, 3) := dd_F_decodeBlock 68 (124, .invokestatic 281, 3) rfl
theorem d_F_decodeBlock_127 : decode b_F_decodeBlock 127 = .ok (.iload 7, 2) := dd_F_decodeBlock 69 (127, .iload 7, 2) rfl
theorem d_F_decodeBlock_129 : decode b_F_decodeBlock 129 = .ok (.iadd, 1) := dd_F_decodeBlock 70 (129, .iadd, 1) rfl
theorem d_F_decodeBlock_130 : decode b_F_decodeBlock 130 = .ok (.istore 11, 2) := dd_F_decodeBlock 71 (130, .istore 11, 2) rfl
theorem d_F_decodeBlock_132 : decode b_F_decodeBlock 132 = .ok (.iload 11, 2) := dd_F_decodeBlock 72 (132, .iload 11, 2) rfl
theorem d_F_decodeBlock_134 : decode b_F_decodeBlock 134 = .ok (.i2l, 1) := dd_F_decodeBlock 73 (134, .i2l, 1) rfl
theorem d_F_decodeBlock_135 : decode b_F_decodeBlock 135 = .ok (.lconst 0, 1) := dd_F_decodeBlock 74 (135, .lconst 0, 1) rfl
theorem d_F_decodeBlock_136 : decode b_F_decodeBlock 136 = .ok (.ldc2_w 104, 3) := dd_F_decodeBlock 75 (136, .ldc2_w 104, 3) rfl
theorem d_F_decodeBlock_139 : decode b_F_decodeBlock 139 = .ok (.invokestatic 106, 3) := dd_F_decodeBlock 76 (139, .invokestatic 106, 3) rfl
theorem d_F_decodeBlock_142 : decode b_F_decodeBlock 142 = .ok (.l2i, 1) := dd_F_decodeBlock 77 (142, .l2i, 1) rfl
theorem d_F_decodeBlock_143 : decode b_F_decodeBlock 143 = .ok (.istore 12, 2) := dd_F_decodeBlock 78 (143, .istore 12, 2) rfl
theorem d_F_decodeBlock_145 : decode b_F_decodeBlock 145 = .ok (.iload 8, 2) := dd_F_decodeBlock 79 (145, .iload 8, 2) rfl
theorem d_F_decodeBlock_147 : decode b_F_decodeBlock 147 = .ok (.iload 12, 2) := dd_F_decodeBlock 80 (147, .iload 12, 2) rfl
theorem d_F_decodeBlock_149 : decode b_F_decodeBlock 149 = .ok (.aload_n 0, 1) := dd_F_decodeBlock 81 (149, .aload_n 0, 1) rfl
theorem d_F_decodeBlock_150 : decode b_F_decodeBlock 150 = .ok (.getfield 31, 3) := dd_F_decodeBlock 82 (150, .getfield 31, 3) rfl
theorem d_F_decodeBlock_153 : decode b_F_decodeBlock 153 = .ok (.iload_n 3, 1) := dd_F_decodeBlock 83 (153, .iload_n 3, 1) rfl
theorem d_F_decodeBlock_154 : decode b_F_decodeBlock 154 = .ok (.iload 10, 2) := dd_F_decodeBlock 84 (154, .iload 10, 2) rfl
theorem d_F_decodeBlock_156 : decode b_F_decodeBlock 156 = .ok (.iadd, 1) := dd_F_decodeBlock 85 (156, .iadd, 1) rfl
theorem d_F_decodeBlock_157 : decode b_F_decodeBlock 157 = .ok (.iload 4, 2) := dd_F_decodeBlock 86 (157, .iload 4, 2) rfl
theorem d_F_decodeBlock_159 : decode b_F_decodeBlock 159 = .ok (.iload 9, 2) := dd_F_decodeBlock 87 (159, .iload 9, 2) rfl
theorem d_F_decodeBlock_161 : decode b_F_decodeBlock 161 = .ok (.iadd, 1) := dd_F_decodeBlock 88 (161, .iadd, 1) rfl
theorem d_F_decodeBlock_162 : decode b_F_decodeBlock 162 = .ok (.invokevirtual 97, 3) := dd_F_decodeBlock 89 (162, .invokevirtual 97, 3) rfl
theorem d_F_decodeBlock_165 : decode b_F_decodeBlock 165 = .ok (.isub, 1) := dd_F_decodeBlock 90 (165, .isub, 1) rfl
theorem d_F_decodeBlock_166 : decode b_F_decodeBlock 166 = .ok (.invokestatic 284, 3) := dd_F_decodeBlock 91 (166, .invokestatic 284, 3) rfl
theorem d_F_decodeBlock_169 : decode b_F_decodeBlock 169 = .ok (.invokestatic 13, 3) := dd_F_decodeBlock 92 (169, .invokestatic 13, 3) rfl
theorem d_F_decodeBlock_172 : decode b_F_decodeBlock 172 = .ok (.istore 8, 2) := dd_F_decodeBlock 93 (172, .istore 8, 2) rfl
theorem d_F_decodeBlock_174 : decode b_F_decodeBlock 174 = .ok (.aload_n 0, 1) := dd_F_decodeBlock 94 (174, .aload_n 0, 1) rfl
theorem d_F_decodeBlock_175 : decode b_F_decodeBlock 175 = .ok (.getfield 31, 3) := dd_F_decodeBlock 95 (175, .getfield 31, 3) rfl
theorem d_F_decodeBlock_178 : decode b_F_decodeBlock 178 = .ok (.iload_n 3, 1) := dd_F_decodeBlock 96 (178, .iload_n 3, 1) rfl
theorem d_F_decodeBlock_179 : decode b_F_decodeBlock 179 = .ok (.iload 10, 2) := dd_F_decodeBlock 97 (179, .iload 10, 2) rfl
theorem d_F_decodeBlock_181 : decode b_F_decodeBlock 181 = .ok (.iadd, 1) := dd_F_decodeBlock 98 (181, .iadd, 1) rfl
theorem d_F_decodeBlock_182 : decode b_F_decodeBlock 182 = .ok (.iload 4, 2) := dd_F_decodeBlock 99 (182, .iload 4, 2) rfl
theorem d_F_decodeBlock_184 : decode b_F_decodeBlock 184 = .ok (.iload 9, 2) := dd_F_decodeBlock 100 (184, .iload 9, 2) rfl
theorem d_F_decodeBlock_186 : decode b_F_decodeBlock 186 = .ok (.iadd, 1) := dd_F_decodeBlock 101 (186, .iadd, 1) rfl
theorem d_F_decodeBlock_187 : decode b_F_decodeBlock 187 = .ok (.iload 12, 2) := dd_F_decodeBlock 102 (187, .iload 12, 2) rfl
theorem d_F_decodeBlock_189 : decode b_F_decodeBlock 189 = .ok (.invokevirtual 100, 3) := dd_F_decodeBlock 103 (189, .invokevirtual 100, 3) rfl
theorem d_F_decodeBlock_192 : decode b_F_decodeBlock 192 = .ok (.iinc 10 1, 3) := dd_F_decodeBlock 104 (192, .iinc 10 1, 3) rfl
theorem d_F_decodeBlock_195 : decode b_F_decodeBlock 195 = .ok (.goto (-91), 3) := dd_F_decodeBlock 105 (195, .goto (-91), 3) rfl
theorem d_F_decodeBlock_198 : decode b_F_decodeBlock 198 = .ok (.iinc 9 1, 3) := dd_F_decodeBlock 106 (198, .iinc 9 1, 3) rfl
theorem d_F_decodeBlock_201 : decode b_F_decodeBlock 201 = .ok (.goto (-107), 3) := dd_F_decodeBlock 107 (201, .goto (-107), 3) rfl
theorem d_F_decodeBlock_204 : decode b_F_decodeBlock 204 = .ok (.iload 8, 2) := dd_F_decodeBlock 108 (204, .iload 8, 2) rfl
theorem d_F_decodeBlock_206 : decode b_F_decodeBlock 206 = .ok (.ireturn, 1) := dd_F_decodeBlock 109 (206, .ireturn, 1) rfl
def tb_F_domainBits : List (Nat × Instr × Nat) := [(0, .aload_n 0, 1), (1, .getfield 16, 3), (4, .iload_n 1, 1), (5, .invokestatic 192, 3), (8, .istore_n 2, 1), (9, .iconst 0, 1), (10, .istore_n 3, 1), (11, .iload_n 3, 1), (12, .bipush 8, 2), (14, .if_icmp .ge 16, 3), (17, .iconst 1, 1), (18, .iload_n 3, 1), (19, .ishl, 1), (20, .iload_n 2, 1), (21, .if_icmp .ge 9, 3), (24, .iinc 3 1, 3), (27, .goto (-16), 3), (30, .iload_n 3, 1), (31, .ireturn, 1)]
theorem dd_F_domainBits : ∀ (i : Nat) (q : Nat × Instr × Nat), tb_F_domainBits[i]? = some q → decode b_F_domainBits q.1 = .ok (q.2.1, q.2.2) := z_tab (by decide +kernel)
theorem d_F_domainBits_0 : decode b_F_domainBits 0 = .ok (.aload_n 0, 1) := dd_F_domainBits 0 (0, .aload_n 0, 1) rfl
theorem d_F_domainBits_1 : decode b_F_domainBits 1 = .ok (.getfield 16, 3) := dd_F_domainBits 1 (1, .getfield 16, 3) rfl
theorem d_F_domainBits_4 : decode b_F_domainBits 4 = .ok (.iload_n 1, 1) := dd_F_domainBits 2 (4, .iload_n 1, 1) rfl
theorem d_F_domainBits_5 : decode b_F_domainBits 5 = .ok (.invokestatic 192, 3) := dd_F_domainBits 3 (5, .invokestatic 192, 3) rfl
theorem d_F_domainBits_8 : decode b_F_domainBits 8 = .ok (.istore_n 2, 1) := dd_F_domainBits 4 (8, .istore_n 2, 1) rfl
theorem d_F_domainBits_9 : decode b_F_domainBits 9 = .ok (.iconst 0, 1) := dd_F_domainBits 5 (9, .iconst 0, 1) rfl
theorem d_F_domainBits_10 : decode b_F_domainBits 10 = .ok (.istore_n 3, 1) := dd_F_domainBits 6 (10, .istore_n 3, 1) rfl
theorem d_F_domainBits_11 : decode b_F_domainBits 11 = .ok (.iload_n 3, 1) := dd_F_domainBits 7 (11, .iload_n 3, 1) rfl
theorem d_F_domainBits_12 : decode b_F_domainBits 12 = .ok (.bipush 8, 2) := dd_F_domainBits 8 (12, .bipush 8, 2) rfl
theorem d_F_domainBits_14 : decode b_F_domainBits 14 = .ok (.if_icmp .ge 16, 3) := dd_F_domainBits 9 (14, .if_icmp .ge 16, 3) rfl
theorem d_F_domainBits_17 : decode b_F_domainBits 17 = .ok (.iconst 1, 1) := dd_F_domainBits 10 (17, .iconst 1, 1) rfl
theorem d_F_domainBits_18 : decode b_F_domainBits 18 = .ok (.iload_n 3, 1) := dd_F_domainBits 11 (18, .iload_n 3, 1) rfl
theorem d_F_domainBits_19 : decode b_F_domainBits 19 = .ok (.ishl, 1) := dd_F_domainBits 12 (19, .ishl, 1) rfl
theorem d_F_domainBits_20 : decode b_F_domainBits 20 = .ok (.iload_n 2, 1) := dd_F_domainBits 13 (20, .iload_n 2, 1) rfl
theorem d_F_domainBits_21 : decode b_F_domainBits 21 = .ok (.if_icmp .ge 9, 3) := dd_F_domainBits 14 (21, .if_icmp .ge 9, 3) rfl
theorem d_F_domainBits_24 : decode b_F_domainBits 24 = .ok (.iinc 3 1, 3) := dd_F_domainBits 15 (24, .iinc 3 1, 3) rfl
theorem d_F_domainBits_27 : decode b_F_domainBits 27 = .ok (.goto (-16), 3) := dd_F_domainBits 16 (27, .goto (-16), 3) rfl
theorem d_F_domainBits_30 : decode b_F_domainBits 30 = .ok (.iload_n 3, 1) := dd_F_domainBits 17 (30, .iload_n 3, 1) rfl
theorem d_F_domainBits_31 : decode b_F_domainBits 31 = .ok (.ireturn, 1) := dd_F_domainBits 18 (31, .ireturn, 1) rfl
def tb_F_isSize : List (Nat × Instr × Nat) := [(0, .iload_n 0, 1), (1, .iconst 2, 1), (2, .if_icmp .eq 20, 3), (5, .iload_n 0, 1), (6, .iconst 4, 1), (7, .if_icmp .eq 15, 3), (10, .iload_n 0, 1), (11, .bipush 8, 2), (13, .if_icmp .eq 9, 3), (16, .iload_n 0, 1), (17, .bipush 16, 2), (19, .if_icmp .ne 7, 3), (22, .iconst 1, 1), (23, .goto 4, 3), (26, .iconst 0, 1), (27, .ireturn, 1)]
theorem dd_F_isSize : ∀ (i : Nat) (q : Nat × Instr × Nat), tb_F_isSize[i]? = some q → decode b_F_isSize q.1 = .ok (q.2.1, q.2.2) := z_tab (by decide +kernel)
theorem d_F_isSize_0 : decode b_F_isSize 0 = .ok (.iload_n 0, 1) := dd_F_isSize 0 (0, .iload_n 0, 1) rfl
theorem d_F_isSize_1 : decode b_F_isSize 1 = .ok (.iconst 2, 1) := dd_F_isSize 1 (1, .iconst 2, 1) rfl
theorem d_F_isSize_2 : decode b_F_isSize 2 = .ok (.if_icmp .eq 20, 3) := dd_F_isSize 2 (2, .if_icmp .eq 20, 3) rfl
theorem d_F_isSize_5 : decode b_F_isSize 5 = .ok (.iload_n 0, 1) := dd_F_isSize 3 (5, .iload_n 0, 1) rfl
theorem d_F_isSize_6 : decode b_F_isSize 6 = .ok (.iconst 4, 1) := dd_F_isSize 4 (6, .iconst 4, 1) rfl
theorem d_F_isSize_7 : decode b_F_isSize 7 = .ok (.if_icmp .eq 15, 3) := dd_F_isSize 5 (7, .if_icmp .eq 15, 3) rfl
theorem d_F_isSize_10 : decode b_F_isSize 10 = .ok (.iload_n 0, 1) := dd_F_isSize 6 (10, .iload_n 0, 1) rfl
theorem d_F_isSize_11 : decode b_F_isSize 11 = .ok (.bipush 8, 2) := dd_F_isSize 7 (11, .bipush 8, 2) rfl
theorem d_F_isSize_13 : decode b_F_isSize 13 = .ok (.if_icmp .eq 9, 3) := dd_F_isSize 8 (13, .if_icmp .eq 9, 3) rfl
theorem d_F_isSize_16 : decode b_F_isSize 16 = .ok (.iload_n 0, 1) := dd_F_isSize 9 (16, .iload_n 0, 1) rfl
theorem d_F_isSize_17 : decode b_F_isSize 17 = .ok (.bipush 16, 2) := dd_F_isSize 10 (17, .bipush 16, 2) rfl
theorem d_F_isSize_19 : decode b_F_isSize 19 = .ok (.if_icmp .ne 7, 3) := dd_F_isSize 11 (19, .if_icmp .ne 7, 3) rfl
theorem d_F_isSize_22 : decode b_F_isSize 22 = .ok (.iconst 1, 1) := dd_F_isSize 12 (22, .iconst 1, 1) rfl
theorem d_F_isSize_23 : decode b_F_isSize 23 = .ok (.goto 4, 3) := dd_F_isSize 13 (23, .goto 4, 3) rfl
theorem d_F_isSize_26 : decode b_F_isSize 26 = .ok (.iconst 0, 1) := dd_F_isSize 14 (26, .iconst 0, 1) rfl
theorem d_F_isSize_27 : decode b_F_isSize 27 = .ok (.ireturn, 1) := dd_F_isSize 15 (27, .ireturn, 1) rfl
def tb_F_sizeNumber : List (Nat × Instr × Nat) := [(0, .iconst 1, 1), (1, .istore_n 1, 1), (2, .iload_n 1, 1), (3, .iconst 4, 1), (4, .if_icmp .ge 16, 3), (7, .iconst 1, 1), (8, .iload_n 1, 1), (9, .ishl, 1), (10, .iload_n 0, 1), (11, .if_icmp .ge 9, 3), (14, .iinc 1 1, 3), (17, .goto (-15), 3), (20, .iload_n 1, 1), (21, .ireturn, 1)]
theorem dd_F_sizeNumber : ∀ (i : Nat) (q : Nat × Instr × Nat), tb_F_sizeNumber[i]? = some q → decode b_F_sizeNumber q.1 = .ok (q.2.1, q.2.2) := z_tab (by decide +kernel)
theorem d_F_sizeNumber_0 : decode b_F_sizeNumber 0 = .ok (.iconst 1, 1) := dd_F_sizeNumber 0 (0, .iconst 1, 1) rfl
theorem d_F_sizeNumber_1 : decode b_F_sizeNumber 1 = .ok (.istore_n 1, 1) := dd_F_sizeNumber 1 (1, .istore_n 1, 1) rfl
theorem d_F_sizeNumber_2 : decode b_F_sizeNumber 2 = .ok (.iload_n 1, 1) := dd_F_sizeNumber 2 (2, .iload_n 1, 1) rfl
theorem d_F_sizeNumber_3 : decode b_F_sizeNumber 3 = .ok (.iconst 4, 1) := dd_F_sizeNumber 3 (3, .iconst 4, 1) rfl
theorem d_F_sizeNumber_4 : decode b_F_sizeNumber 4 = .ok (.if_icmp .ge 16, 3) := dd_F_sizeNumber 4 (4, .if_icmp .ge 16, 3) rfl
theorem d_F_sizeNumber_7 : decode b_F_sizeNumber 7 = .ok (.iconst 1, 1) := dd_F_sizeNumber 5 (7, .iconst 1, 1) rfl
theorem d_F_sizeNumber_8 : decode b_F_sizeNumber 8 = .ok (.iload_n 1, 1) := dd_F_sizeNumber 6 (8, .iload_n 1, 1) rfl
theorem d_F_sizeNumber_9 : decode b_F_sizeNumber 9 = .ok (.ishl, 1) := dd_F_sizeNumber 7 (9, .ishl, 1) rfl
theorem d_F_sizeNumber_10 : decode b_F_sizeNumber 10 = .ok (.iload_n 0, 1) := dd_F_sizeNumber 8 (10, .iload_n 0, 1) rfl
theorem d_F_sizeNumber_11 : decode b_F_sizeNumber 11 = .ok (.if_icmp .ge 9, 3) := dd_F_sizeNumber 9 (11, .if_icmp .ge 9, 3) rfl
theorem d_F_sizeNumber_14 : decode b_F_sizeNumber 14 = .ok (.iinc 1 1, 3) := dd_F_sizeNumber 10 (14, .iinc 1 1, 3) rfl
theorem d_F_sizeNumber_17 : decode b_F_sizeNumber 17 = .ok (.goto (-15), 3) := dd_F_sizeNumber 11 (17, .goto (-15), 3) rfl
theorem d_F_sizeNumber_20 : decode b_F_sizeNumber 20 = .ok (.iload_n 1, 1) := dd_F_sizeNumber 12 (20, .iload_n 1, 1) rfl
theorem d_F_sizeNumber_21 : decode b_F_sizeNumber 21 = .ok (.ireturn, 1) := dd_F_sizeNumber 13 (21, .ireturn, 1) rfl
def tb_F_domainsAcross : List (Nat × Instr × Nat) := [(0, .iload_n 1, 1), (1, .iconst 1, 1), (2, .if_icmp .lt 8, 3), (5, .iload_n 1, 1), (6, .iload_n 0, 1), (7, .if_icmp .le 7, 3), (10, .iconst 0, 1), (11, .goto 8, 3), (14, .iload_n 0, 1), (15, .iload_n 1, 1), (16, .idiv, 1), (17, .iconst 1, 1), (18, .isub, 1), (19, .ireturn, 1)]
theorem dd_F_domainsAcross : ∀ (i : Nat) (q : Nat × Instr × Nat), tb_F_domainsAcross[i]? = some q → decode b_F_domainsAcross q.1 = .ok (q.2.1, q.2.2) := z_tab (by decide +kernel)
theorem d_F_domainsAcross_0 : decode b_F_domainsAcross 0 = .ok (.iload_n 1, 1) := dd_F_domainsAcross 0 (0, .iload_n 1, 1) rfl
theorem d_F_domainsAcross_1 : decode b_F_domainsAcross 1 = .ok (.iconst 1, 1) := dd_F_domainsAcross 1 (1, .iconst 1, 1) rfl
theorem d_F_domainsAcross_2 : decode b_F_domainsAcross 2 = .ok (.if_icmp .lt 8, 3) := dd_F_domainsAcross 2 (2, .if_icmp .lt 8, 3) rfl
theorem d_F_domainsAcross_5 : decode b_F_domainsAcross 5 = .ok (.iload_n 1, 1) := dd_F_domainsAcross 3 (5, .iload_n 1, 1) rfl
theorem d_F_domainsAcross_6 : decode b_F_domainsAcross 6 = .ok (.iload_n 0, 1) := dd_F_domainsAcross 4 (6, .iload_n 0, 1) rfl
theorem d_F_domainsAcross_7 : decode b_F_domainsAcross 7 = .ok (.if_icmp .le 7, 3) := dd_F_domainsAcross 5 (7, .if_icmp .le 7, 3) rfl
theorem d_F_domainsAcross_10 : decode b_F_domainsAcross 10 = .ok (.iconst 0, 1) := dd_F_domainsAcross 6 (10, .iconst 0, 1) rfl
theorem d_F_domainsAcross_11 : decode b_F_domainsAcross 11 = .ok (.goto 8, 3) := dd_F_domainsAcross 7 (11, .goto 8, 3) rfl
theorem d_F_domainsAcross_14 : decode b_F_domainsAcross 14 = .ok (.iload_n 0, 1) := dd_F_domainsAcross 8 (14, .iload_n 0, 1) rfl
theorem d_F_domainsAcross_15 : decode b_F_domainsAcross 15 = .ok (.iload_n 1, 1) := dd_F_domainsAcross 9 (15, .iload_n 1, 1) rfl
theorem d_F_domainsAcross_16 : decode b_F_domainsAcross 16 = .ok (.idiv, 1) := dd_F_domainsAcross 10 (16, .idiv, 1) rfl
theorem d_F_domainsAcross_17 : decode b_F_domainsAcross 17 = .ok (.iconst 1, 1) := dd_F_domainsAcross 11 (17, .iconst 1, 1) rfl
theorem d_F_domainsAcross_18 : decode b_F_domainsAcross 18 = .ok (.isub, 1) := dd_F_domainsAcross 12 (18, .isub, 1) rfl
theorem d_F_domainsAcross_19 : decode b_F_domainsAcross 19 = .ok (.ireturn, 1) := dd_F_domainsAcross 13 (19, .ireturn, 1) rfl
def tb_F_domainsOf : List (Nat × Instr × Nat) := [(0, .iload_n 0, 1), (1, .iload_n 1, 1), (2, .invokestatic 287, 3), (5, .istore_n 2, 1), (6, .iload_n 2, 1), (7, .iload_n 2, 1), (8, .imul, 1), (9, .ireturn, 1)]
theorem dd_F_domainsOf : ∀ (i : Nat) (q : Nat × Instr × Nat), tb_F_domainsOf[i]? = some q → decode b_F_domainsOf q.1 = .ok (q.2.1, q.2.2) := z_tab (by decide +kernel)
theorem d_F_domainsOf_0 : decode b_F_domainsOf 0 = .ok (.iload_n 0, 1) := dd_F_domainsOf 0 (0, .iload_n 0, 1) rfl
theorem d_F_domainsOf_1 : decode b_F_domainsOf 1 = .ok (.iload_n 1, 1) := dd_F_domainsOf 1 (1, .iload_n 1, 1) rfl
theorem d_F_domainsOf_2 : decode b_F_domainsOf 2 = .ok (.invokestatic 287, 3) := dd_F_domainsOf 2 (2, .invokestatic 287, 3) rfl
theorem d_F_domainsOf_5 : decode b_F_domainsOf 5 = .ok (.istore_n 2, 1) := dd_F_domainsOf 3 (5, .istore_n 2, 1) rfl
theorem d_F_domainsOf_6 : decode b_F_domainsOf 6 = .ok (.iload_n 2, 1) := dd_F_domainsOf 4 (6, .iload_n 2, 1) rfl
theorem d_F_domainsOf_7 : decode b_F_domainsOf 7 = .ok (.iload_n 2, 1) := dd_F_domainsOf 5 (7, .iload_n 2, 1) rfl
theorem d_F_domainsOf_8 : decode b_F_domainsOf 8 = .ok (.imul, 1) := dd_F_domainsOf 6 (8, .imul, 1) rfl
theorem d_F_domainsOf_9 : decode b_F_domainsOf 9 = .ok (.ireturn, 1) := dd_F_domainsOf 7 (9, .ireturn, 1) rfl
def tb_F_acrossOf : List (Nat × Instr × Nat) := [(0, .iload_n 0, 1), (1, .iconst 1, 1), (2, .iand, 1), (3, .ireturn, 1)]
theorem dd_F_acrossOf : ∀ (i : Nat) (q : Nat × Instr × Nat), tb_F_acrossOf[i]? = some q → decode b_F_acrossOf q.1 = .ok (q.2.1, q.2.2) := z_tab (by decide +kernel)
theorem d_F_acrossOf_0 : decode b_F_acrossOf 0 = .ok (.iload_n 0, 1) := dd_F_acrossOf 0 (0, .iload_n 0, 1) rfl
theorem d_F_acrossOf_1 : decode b_F_acrossOf 1 = .ok (.iconst 1, 1) := dd_F_acrossOf 1 (1, .iconst 1, 1) rfl
theorem d_F_acrossOf_2 : decode b_F_acrossOf 2 = .ok (.iand, 1) := dd_F_acrossOf 2 (2, .iand, 1) rfl
theorem d_F_acrossOf_3 : decode b_F_acrossOf 3 = .ok (.ireturn, 1) := dd_F_acrossOf 3 (3, .ireturn, 1) rfl
def tb_F_downOf : List (Nat × Instr × Nat) := [(0, .iload_n 0, 1), (1, .iconst 1, 1), (2, .ishr, 1), (3, .ireturn, 1)]
theorem dd_F_downOf : ∀ (i : Nat) (q : Nat × Instr × Nat), tb_F_downOf[i]? = some q → decode b_F_downOf q.1 = .ok (q.2.1, q.2.2) := z_tab (by decide +kernel)
theorem d_F_downOf_0 : decode b_F_downOf 0 = .ok (.iload_n 0, 1) := dd_F_downOf 0 (0, .iload_n 0, 1) rfl
theorem d_F_downOf_1 : decode b_F_downOf 1 = .ok (.iconst 1, 1) := dd_F_downOf 1 (1, .iconst 1, 1) rfl
theorem d_F_downOf_2 : decode b_F_downOf 2 = .ok (.ishr, 1) := dd_F_downOf 2 (2, .ishr, 1) rfl
theorem d_F_downOf_3 : decode b_F_downOf 3 = .ok (.ireturn, 1) := dd_F_downOf 3 (3, .ireturn, 1) rfl
def tb_F_brought : List (Nat × Instr × Nat) := [(0, .lload_n 2, 1), (1, .lload_n 0, 1), (2, .lload 4, 2), (4, .invokestatic 290, 3), (7, .invokestatic 293, 3), (10, .lreturn, 1)]
theorem dd_F_brought : ∀ (i : Nat) (q : Nat × Instr × Nat), tb_F_brought[i]? = some q → decode b_F_brought q.1 = .ok (q.2.1, q.2.2) := z_tab (by decide +kernel)
theorem d_F_brought_0 : decode b_F_brought 0 = .ok (.lload_n 2, 1) := dd_F_brought 0 (0, .lload_n 2, 1) rfl
theorem d_F_brought_1 : decode b_F_brought 1 = .ok (.lload_n 0, 1) := dd_F_brought 1 (1, .lload_n 0, 1) rfl
theorem d_F_brought_2 : decode b_F_brought 2 = .ok (.lload 4, 2) := dd_F_brought 2 (2, .lload 4, 2) rfl
theorem d_F_brought_4 : decode b_F_brought 4 = .ok (.invokestatic 290, 3) := dd_F_brought 3 (4, .invokestatic 290, 3) rfl
theorem d_F_brought_7 : decode b_F_brought 7 = .ok (.invokestatic 293, 3) := dd_F_brought 4 (7, .invokestatic 293, 3) rfl
theorem d_F_brought_10 : decode b_F_brought 10 = .ok (.lreturn, 1) := dd_F_brought 5 (10, .lreturn, 1) rfl
def tb_F_dimmed : List (Nat × Instr × Nat) := [(0, .iload_n 1, 1), (1, .iload_n 0, 1), (2, .imul, 1), (3, .bipush 8, 2), (5, .invokestatic 295, 3), (8, .ireturn, 1)]
theorem dd_F_dimmed : ∀ (i : Nat) (q : Nat × Instr × Nat), tb_F_dimmed[i]? = some q → decode b_F_dimmed q.1 = .ok (q.2.1, q.2.2) := z_tab (by decide +kernel)
theorem d_F_dimmed_0 : decode b_F_dimmed 0 = .ok (.iload_n 1, 1) := dd_F_dimmed 0 (0, .iload_n 1, 1) rfl
theorem d_F_dimmed_1 : decode b_F_dimmed 1 = .ok (.iload_n 0, 1) := dd_F_dimmed 1 (1, .iload_n 0, 1) rfl
theorem d_F_dimmed_2 : decode b_F_dimmed 2 = .ok (.imul, 1) := dd_F_dimmed 2 (2, .imul, 1) rfl
theorem d_F_dimmed_3 : decode b_F_dimmed 3 = .ok (.bipush 8, 2) := dd_F_dimmed 3 (3, .bipush 8, 2) rfl
theorem d_F_dimmed_5 : decode b_F_dimmed 5 = .ok (.invokestatic 295, 3) := dd_F_dimmed 4 (5, .invokestatic 295, 3) rfl
theorem d_F_dimmed_8 : decode b_F_dimmed 8 = .ok (.ireturn, 1) := dd_F_dimmed 5 (8, .ireturn, 1) rfl
def tb_F_nearest : List (Nat × Instr × Nat) := [(0, .lload_n 2, 1), (1, .lconst 0, 1), (2, .lcmp, 1), (3, .ifCond .gt 7, 3), (6, .lconst 0, 1), (7, .goto 18, 3), (10, .ldc2_w 298, 3), (13, .lload_n 0, 1), (14, .lmul, 1), (15, .lload_n 2, 1), (16, .ladd, 1), (17, .ldc2_w 298, 3), (20, .lload_n 2, 1), (21, .lmul, 1), (22, .invokestatic 300, 3), (25, .lreturn, 1)]
theorem dd_F_nearest : ∀ (i : Nat) (q : Nat × Instr × Nat), tb_F_nearest[i]? = some q → decode b_F_nearest q.1 = .ok (q.2.1, q.2.2) := z_tab (by decide +kernel)
theorem d_F_nearest_0 : decode b_F_nearest 0 = .ok (.lload_n 2, 1) := dd_F_nearest 0 (0, .lload_n 2, 1) rfl
theorem d_F_nearest_1 : decode b_F_nearest 1 = .ok (.lconst 0, 1) := dd_F_nearest 1 (1, .lconst 0, 1) rfl
theorem d_F_nearest_2 : decode b_F_nearest 2 = .ok (.lcmp, 1) := dd_F_nearest 2 (2, .lcmp, 1) rfl
theorem d_F_nearest_3 : decode b_F_nearest 3 = .ok (.ifCond .gt 7, 3) := dd_F_nearest 3 (3, .ifCond .gt 7, 3) rfl
theorem d_F_nearest_6 : decode b_F_nearest 6 = .ok (.lconst 0, 1) := dd_F_nearest 4 (6, .lconst 0, 1) rfl
theorem d_F_nearest_7 : decode b_F_nearest 7 = .ok (.goto 18, 3) := dd_F_nearest 5 (7, .goto 18, 3) rfl
theorem d_F_nearest_10 : decode b_F_nearest 10 = .ok (.ldc2_w 298, 3) := dd_F_nearest 6 (10, .ldc2_w 298, 3) rfl
theorem d_F_nearest_13 : decode b_F_nearest 13 = .ok (.lload_n 0, 1) := dd_F_nearest 7 (13, .lload_n 0, 1) rfl
theorem d_F_nearest_14 : decode b_F_nearest 14 = .ok (.lmul, 1) := dd_F_nearest 8 (14, .lmul, 1) rfl
theorem d_F_nearest_15 : decode b_F_nearest 15 = .ok (.lload_n 2, 1) := dd_F_nearest 9 (15, .lload_n 2, 1) rfl
theorem d_F_nearest_16 : decode b_F_nearest 16 = .ok (.ladd, 1) := dd_F_nearest 10 (16, .ladd, 1) rfl
theorem d_F_nearest_17 : decode b_F_nearest 17 = .ok (.ldc2_w 298, 3) := dd_F_nearest 11 (17, .ldc2_w 298, 3) rfl
theorem d_F_nearest_20 : decode b_F_nearest 20 = .ok (.lload_n 2, 1) := dd_F_nearest 12 (20, .lload_n 2, 1) rfl
theorem d_F_nearest_21 : decode b_F_nearest 21 = .ok (.lmul, 1) := dd_F_nearest 13 (21, .lmul, 1) rfl
theorem d_F_nearest_22 : decode b_F_nearest 22 = .ok (.invokestatic 300, 3) := dd_F_nearest 14 (22, .invokestatic 300, 3) rfl
theorem d_F_nearest_25 : decode b_F_nearest 25 = .ok (.lreturn, 1) := dd_F_nearest 15 (25, .lreturn, 1) rfl
def tb_M_init : List (Nat × Instr × Nat) := [(0, .aload_n 0, 1), (1, .invokespecial 1, 3), (4, .aload_n 0, 1), (5, .sipush 1024, 3), (8, .newarray .int, 2), (10, .putfield 7, 3), (13, .aload_n 0, 1), (14, .sipush 256, 3), (17, .newarray .int, 2), (19, .putfield 13, 3), (22, .aload_n 0, 1), (23, .sipush 4096, 3), (26, .newarray .int, 2), (28, .putfield 16, 3), (31, .aload_n 0, 1), (32, .sipush 2000, 3), (35, .newarray .int, 2), (37, .putfield 19, 3), (40, .aload_n 0, 1), (41, .sipush 2000, 3), (44, .newarray .int, 2), (46, .putfield 22, 3), (49, .aload_n 0, 1), (50, .bipush 96, 2), (52, .newarray .int, 2), (54, .putfield 25, 3), (57, .aload_n 0, 1), (58, .sipush 4096, 3), (61, .newarray .int, 2), (63, .putfield 28, 3), (66, .aload_n 0, 1), (67, .sipush 4096, 3), (70, .newarray .int, 2), (72, .putfield 31, 3), (75, .aload_n 0, 1), (76, .sipush 1024, 3), (79, .newarray .int, 2), (81, .putfield 34, 3), (84, .aload_n 0, 1), (85, .sipush 256, 3), (88, .newarray .int, 2), (90, .putfield 37, 3), (93, .aload_n 0, 1), (94, .sipush 256, 3), (97, .newarray .int, 2), (99, .putfield 40, 3), (102, .aload_n 0, 1), (103, .iconst 4, 1), (104, .newarray .int, 2), (106, .putfield 43, 3), (109, .iload_n 1, 1), (110, .ifCond .ge 7, 3), (113, .iconst 0, 1), (114, .goto 13, 3), (117, .iload_n 1, 1), (118, .iconst 3, 1), (119, .if_icmp .le 7, 3), (122, .iconst 3, 1), (123, .goto 4, 3), (126, .iload_n 1, 1), (127, .istore_n 2, 1), (128, .aload_n 0, 1), (129, .iconst 4, 1), (130, .iload_n 2, 1), (131, .ishl, 1), (132, .putfield 46, 3), (135, .return_, 1)]
theorem dd_M_init : ∀ (i : Nat) (q : Nat × Instr × Nat), tb_M_init[i]? = some q → decode b_M_init q.1 = .ok (q.2.1, q.2.2) := z_tab (by decide +kernel)
theorem d_M_init_0 : decode b_M_init 0 = .ok (.aload_n 0, 1) := dd_M_init 0 (0, .aload_n 0, 1) rfl
theorem d_M_init_1 : decode b_M_init 1 = .ok (.invokespecial 1, 3) := dd_M_init 1 (1, .invokespecial 1, 3) rfl
theorem d_M_init_4 : decode b_M_init 4 = .ok (.aload_n 0, 1) := dd_M_init 2 (4, .aload_n 0, 1) rfl
theorem d_M_init_5 : decode b_M_init 5 = .ok (.sipush 1024, 3) := dd_M_init 3 (5, .sipush 1024, 3) rfl
theorem d_M_init_8 : decode b_M_init 8 = .ok (.newarray .int, 2) := dd_M_init 4 (8, .newarray .int, 2) rfl
theorem d_M_init_10 : decode b_M_init 10 = .ok (.putfield 7, 3) := dd_M_init 5 (10, .putfield 7, 3) rfl
theorem d_M_init_13 : decode b_M_init 13 = .ok (.aload_n 0, 1) := dd_M_init 6 (13, .aload_n 0, 1) rfl
theorem d_M_init_14 : decode b_M_init 14 = .ok (.sipush 256, 3) := dd_M_init 7 (14, .sipush 256, 3) rfl
theorem d_M_init_17 : decode b_M_init 17 = .ok (.newarray .int, 2) := dd_M_init 8 (17, .newarray .int, 2) rfl
theorem d_M_init_19 : decode b_M_init 19 = .ok (.putfield 13, 3) := dd_M_init 9 (19, .putfield 13, 3) rfl
theorem d_M_init_22 : decode b_M_init 22 = .ok (.aload_n 0, 1) := dd_M_init 10 (22, .aload_n 0, 1) rfl
theorem d_M_init_23 : decode b_M_init 23 = .ok (.sipush 4096, 3) := dd_M_init 11 (23, .sipush 4096, 3) rfl
theorem d_M_init_26 : decode b_M_init 26 = .ok (.newarray .int, 2) := dd_M_init 12 (26, .newarray .int, 2) rfl
theorem d_M_init_28 : decode b_M_init 28 = .ok (.putfield 16, 3) := dd_M_init 13 (28, .putfield 16, 3) rfl
theorem d_M_init_31 : decode b_M_init 31 = .ok (.aload_n 0, 1) := dd_M_init 14 (31, .aload_n 0, 1) rfl
theorem d_M_init_32 : decode b_M_init 32 = .ok (.sipush 2000, 3) := dd_M_init 15 (32, .sipush 2000, 3) rfl
theorem d_M_init_35 : decode b_M_init 35 = .ok (.newarray .int, 2) := dd_M_init 16 (35, .newarray .int, 2) rfl
theorem d_M_init_37 : decode b_M_init 37 = .ok (.putfield 19, 3) := dd_M_init 17 (37, .putfield 19, 3) rfl
theorem d_M_init_40 : decode b_M_init 40 = .ok (.aload_n 0, 1) := dd_M_init 18 (40, .aload_n 0, 1) rfl
theorem d_M_init_41 : decode b_M_init 41 = .ok (.sipush 2000, 3) := dd_M_init 19 (41, .sipush 2000, 3) rfl
theorem d_M_init_44 : decode b_M_init 44 = .ok (.newarray .int, 2) := dd_M_init 20 (44, .newarray .int, 2) rfl
theorem d_M_init_46 : decode b_M_init 46 = .ok (.putfield 22, 3) := dd_M_init 21 (46, .putfield 22, 3) rfl
theorem d_M_init_49 : decode b_M_init 49 = .ok (.aload_n 0, 1) := dd_M_init 22 (49, .aload_n 0, 1) rfl
theorem d_M_init_50 : decode b_M_init 50 = .ok (.bipush 96, 2) := dd_M_init 23 (50, .bipush 96, 2) rfl
theorem d_M_init_52 : decode b_M_init 52 = .ok (.newarray .int, 2) := dd_M_init 24 (52, .newarray .int, 2) rfl
theorem d_M_init_54 : decode b_M_init 54 = .ok (.putfield 25, 3) := dd_M_init 25 (54, .putfield 25, 3) rfl
theorem d_M_init_57 : decode b_M_init 57 = .ok (.aload_n 0, 1) := dd_M_init 26 (57, .aload_n 0, 1) rfl
theorem d_M_init_58 : decode b_M_init 58 = .ok (.sipush 4096, 3) := dd_M_init 27 (58, .sipush 4096, 3) rfl
theorem d_M_init_61 : decode b_M_init 61 = .ok (.newarray .int, 2) := dd_M_init 28 (61, .newarray .int, 2) rfl
theorem d_M_init_63 : decode b_M_init 63 = .ok (.putfield 28, 3) := dd_M_init 29 (63, .putfield 28, 3) rfl
theorem d_M_init_66 : decode b_M_init 66 = .ok (.aload_n 0, 1) := dd_M_init 30 (66, .aload_n 0, 1) rfl
theorem d_M_init_67 : decode b_M_init 67 = .ok (.sipush 4096, 3) := dd_M_init 31 (67, .sipush 4096, 3) rfl
theorem d_M_init_70 : decode b_M_init 70 = .ok (.newarray .int, 2) := dd_M_init 32 (70, .newarray .int, 2) rfl
theorem d_M_init_72 : decode b_M_init 72 = .ok (.putfield 31, 3) := dd_M_init 33 (72, .putfield 31, 3) rfl
theorem d_M_init_75 : decode b_M_init 75 = .ok (.aload_n 0, 1) := dd_M_init 34 (75, .aload_n 0, 1) rfl
theorem d_M_init_76 : decode b_M_init 76 = .ok (.sipush 1024, 3) := dd_M_init 35 (76, .sipush 1024, 3) rfl
theorem d_M_init_79 : decode b_M_init 79 = .ok (.newarray .int, 2) := dd_M_init 36 (79, .newarray .int, 2) rfl
theorem d_M_init_81 : decode b_M_init 81 = .ok (.putfield 34, 3) := dd_M_init 37 (81, .putfield 34, 3) rfl
theorem d_M_init_84 : decode b_M_init 84 = .ok (.aload_n 0, 1) := dd_M_init 38 (84, .aload_n 0, 1) rfl
theorem d_M_init_85 : decode b_M_init 85 = .ok (.sipush 256, 3) := dd_M_init 39 (85, .sipush 256, 3) rfl
theorem d_M_init_88 : decode b_M_init 88 = .ok (.newarray .int, 2) := dd_M_init 40 (88, .newarray .int, 2) rfl
theorem d_M_init_90 : decode b_M_init 90 = .ok (.putfield 37, 3) := dd_M_init 41 (90, .putfield 37, 3) rfl
theorem d_M_init_93 : decode b_M_init 93 = .ok (.aload_n 0, 1) := dd_M_init 42 (93, .aload_n 0, 1) rfl
theorem d_M_init_94 : decode b_M_init 94 = .ok (.sipush 256, 3) := dd_M_init 43 (94, .sipush 256, 3) rfl
theorem d_M_init_97 : decode b_M_init 97 = .ok (.newarray .int, 2) := dd_M_init 44 (97, .newarray .int, 2) rfl
theorem d_M_init_99 : decode b_M_init 99 = .ok (.putfield 40, 3) := dd_M_init 45 (99, .putfield 40, 3) rfl
theorem d_M_init_102 : decode b_M_init 102 = .ok (.aload_n 0, 1) := dd_M_init 46 (102, .aload_n 0, 1) rfl
theorem d_M_init_103 : decode b_M_init 103 = .ok (.iconst 4, 1) := dd_M_init 47 (103, .iconst 4, 1) rfl
theorem d_M_init_104 : decode b_M_init 104 = .ok (.newarray .int, 2) := dd_M_init 48 (104, .newarray .int, 2) rfl
theorem d_M_init_106 : decode b_M_init 106 = .ok (.putfield 43, 3) := dd_M_init 49 (106, .putfield 43, 3) rfl
theorem d_M_init_109 : decode b_M_init 109 = .ok (.iload_n 1, 1) := dd_M_init 50 (109, .iload_n 1, 1) rfl
theorem d_M_init_110 : decode b_M_init 110 = .ok (.ifCond .ge 7, 3) := dd_M_init 51 (110, .ifCond .ge 7, 3) rfl
theorem d_M_init_113 : decode b_M_init 113 = .ok (.iconst 0, 1) := dd_M_init 52 (113, .iconst 0, 1) rfl
theorem d_M_init_114 : decode b_M_init 114 = .ok (.goto 13, 3) := dd_M_init 53 (114, .goto 13, 3) rfl
theorem d_M_init_117 : decode b_M_init 117 = .ok (.iload_n 1, 1) := dd_M_init 54 (117, .iload_n 1, 1) rfl
theorem d_M_init_118 : decode b_M_init 118 = .ok (.iconst 3, 1) := dd_M_init 55 (118, .iconst 3, 1) rfl
theorem d_M_init_119 : decode b_M_init 119 = .ok (.if_icmp .le 7, 3) := dd_M_init 56 (119, .if_icmp .le 7, 3) rfl
theorem d_M_init_122 : decode b_M_init 122 = .ok (.iconst 3, 1) := dd_M_init 57 (122, .iconst 3, 1) rfl
theorem d_M_init_123 : decode b_M_init 123 = .ok (.goto 4, 3) := dd_M_init 58 (123, .goto 4, 3) rfl
theorem d_M_init_126 : decode b_M_init 126 = .ok (.iload_n 1, 1) := dd_M_init 59 (126, .iload_n 1, 1) rfl
theorem d_M_init_127 : decode b_M_init 127 = .ok (.istore_n 2, 1) := dd_M_init 60 (127, .istore_n 2, 1) rfl
theorem d_M_init_128 : decode b_M_init 128 = .ok (.aload_n 0, 1) := dd_M_init 61 (128, .aload_n 0, 1) rfl
theorem d_M_init_129 : decode b_M_init 129 = .ok (.iconst 4, 1) := dd_M_init 62 (129, .iconst 4, 1) rfl
theorem d_M_init_130 : decode b_M_init 130 = .ok (.iload_n 2, 1) := dd_M_init 63 (130, .iload_n 2, 1) rfl
theorem d_M_init_131 : decode b_M_init 131 = .ok (.ishl, 1) := dd_M_init 64 (131, .ishl, 1) rfl
theorem d_M_init_132 : decode b_M_init 132 = .ok (.putfield 46, 3) := dd_M_init 65 (132, .putfield 46, 3) rfl
theorem d_M_init_135 : decode b_M_init 135 = .ok (.return_, 1) := dd_M_init 66 (135, .return_, 1) rfl
def tb_M_thrown : List (Nat × Instr × Nat) := [(0, .aload_n 0, 1), (1, .getfield 50, 3), (4, .ireturn, 1)]
theorem dd_M_thrown : ∀ (i : Nat) (q : Nat × Instr × Nat), tb_M_thrown[i]? = some q → decode b_M_thrown q.1 = .ok (q.2.1, q.2.2) := z_tab (by decide +kernel)
theorem d_M_thrown_0 : decode b_M_thrown 0 = .ok (.aload_n 0, 1) := dd_M_thrown 0 (0, .aload_n 0, 1) rfl
theorem d_M_thrown_1 : decode b_M_thrown 1 = .ok (.getfield 50, 3) := dd_M_thrown 1 (1, .getfield 50, 3) rfl
theorem d_M_thrown_4 : decode b_M_thrown 4 = .ok (.ireturn, 1) := dd_M_thrown 2 (4, .ireturn, 1) rfl
def tb_M_in : List (Nat × Instr × Nat) := [(0, .lload_n 0, 1), (1, .lload_n 2, 1), (2, .lcmp, 1), (3, .ifCond .lt 14, 3), (6, .lload_n 0, 1), (7, .lload 4, 2), (9, .lcmp, 1), (10, .ifCond .gt 7, 3), (13, .iconst 1, 1), (14, .goto 4, 3), (17, .iconst 0, 1), (18, .ireturn, 1)]
theorem dd_M_in : ∀ (i : Nat) (q : Nat × Instr × Nat), tb_M_in[i]? = some q → decode b_M_in q.1 = .ok (q.2.1, q.2.2) := z_tab (by decide +kernel)
theorem d_M_in_0 : decode b_M_in 0 = .ok (.lload_n 0, 1) := dd_M_in 0 (0, .lload_n 0, 1) rfl
theorem d_M_in_1 : decode b_M_in 1 = .ok (.lload_n 2, 1) := dd_M_in 1 (1, .lload_n 2, 1) rfl
theorem d_M_in_2 : decode b_M_in 2 = .ok (.lcmp, 1) := dd_M_in 2 (2, .lcmp, 1) rfl
theorem d_M_in_3 : decode b_M_in 3 = .ok (.ifCond .lt 14, 3) := dd_M_in 3 (3, .ifCond .lt 14, 3) rfl
theorem d_M_in_6 : decode b_M_in 6 = .ok (.lload_n 0, 1) := dd_M_in 4 (6, .lload_n 0, 1) rfl
theorem d_M_in_7 : decode b_M_in 7 = .ok (.lload 4, 2) := dd_M_in 5 (7, .lload 4, 2) rfl
theorem d_M_in_9 : decode b_M_in 9 = .ok (.lcmp, 1) := dd_M_in 6 (9, .lcmp, 1) rfl
theorem d_M_in_10 : decode b_M_in 10 = .ok (.ifCond .gt 7, 3) := dd_M_in 7 (10, .ifCond .gt 7, 3) rfl
theorem d_M_in_13 : decode b_M_in 13 = .ok (.iconst 1, 1) := dd_M_in 8 (13, .iconst 1, 1) rfl
theorem d_M_in_14 : decode b_M_in 14 = .ok (.goto 4, 3) := dd_M_in 9 (14, .goto 4, 3) rfl
theorem d_M_in_17 : decode b_M_in 17 = .ok (.iconst 0, 1) := dd_M_in 10 (17, .iconst 0, 1) rfl
theorem d_M_in_18 : decode b_M_in 18 = .ok (.ireturn, 1) := dd_M_in 11 (18, .ireturn, 1) rfl
