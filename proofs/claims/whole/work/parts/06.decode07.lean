def tb_V_sample : List (Nat × Instr × Nat) := [(0, .aload_n 0, 1), (1, .getfield 35, 3), (4, .iload_n 1, 1), (5, .aload_n 0, 1), (6, .getfield 38, 3), (9, .imul, 1), (10, .iadd, 1), (11, .iload_n 2, 1), (12, .aload_n 0, 1), (13, .getfield 41, 3), (16, .imul, 1), (17, .iadd, 1), (18, .istore_n 3, 1), (19, .iload_n 3, 1), (20, .ifCond .lt 27, 3), (23, .iload_n 3, 1), (24, .aload_n 0, 1), (25, .getfield 7, 3), (28, .getfield 44, 3), (31, .arraylength, 1), (32, .if_icmp .ge 15, 3), (35, .aload_n 0, 1), (36, .getfield 7, 3), (39, .getfield 44, 3), (42, .iload_n 3, 1), (43, .iaload, 1), (44, .goto 4, 3), (47, .iconst 0, 1), (48, .ireturn, 1)]
theorem dd_V_sample : ∀ (i : Nat) (q : Nat × Instr × Nat), tb_V_sample[i]? = some q → decode b_V_sample q.1 = .ok (q.2.1, q.2.2) := z_tab (by decide +kernel)
theorem d_V_sample_0 : decode b_V_sample 0 = .ok (.aload_n 0, 1) := dd_V_sample 0 (0, .aload_n 0, 1) rfl
theorem d_V_sample_1 : decode b_V_sample 1 = .ok (.getfield 35, 3) := dd_V_sample 1 (1, .getfield 35, 3) rfl
theorem d_V_sample_4 : decode b_V_sample 4 = .ok (.iload_n 1, 1) := dd_V_sample 2 (4, .iload_n 1, 1) rfl
theorem d_V_sample_5 : decode b_V_sample 5 = .ok (.aload_n 0, 1) := dd_V_sample 3 (5, .aload_n 0, 1) rfl
theorem d_V_sample_6 : decode b_V_sample 6 = .ok (.getfield 38, 3) := dd_V_sample 4 (6, .getfield 38, 3) rfl
theorem d_V_sample_9 : decode b_V_sample 9 = .ok (.imul, 1) := dd_V_sample 5 (9, .imul, 1) rfl
theorem d_V_sample_10 : decode b_V_sample 10 = .ok (.iadd, 1) := dd_V_sample 6 (10, .iadd, 1) rfl
theorem d_V_sample_11 : decode b_V_sample 11 = .ok (.iload_n 2, 1) := dd_V_sample 7 (11, .iload_n 2, 1) rfl
theorem d_V_sample_12 : decode b_V_sample 12 = .ok (.aload_n 0, 1) := dd_V_sample 8 (12, .aload_n 0, 1) rfl
theorem d_V_sample_13 : decode b_V_sample 13 = .ok (.getfield 41, 3) := dd_V_sample 9 (13, .getfield 41, 3) rfl
theorem d_V_sample_16 : decode b_V_sample 16 = .ok (.imul, 1) := dd_V_sample 10 (16, .imul, 1) rfl
theorem d_V_sample_17 : decode b_V_sample 17 = .ok (.iadd, 1) := dd_V_sample 11 (17, .iadd, 1) rfl
theorem d_V_sample_18 : decode b_V_sample 18 = .ok (.istore_n 3, 1) := dd_V_sample 12 (18, .istore_n 3, 1) rfl
theorem d_V_sample_19 : decode b_V_sample 19 = .ok (.iload_n 3, 1) := dd_V_sample 13 (19, .iload_n 3, 1) rfl
theorem d_V_sample_20 : decode b_V_sample 20 = .ok (.ifCond .lt 27, 3) := dd_V_sample 14 (20, .ifCond .lt 27, 3) rfl
theorem d_V_sample_23 : decode b_V_sample 23 = .ok (.iload_n 3, 1) := dd_V_sample 15 (23, .iload_n 3, 1) rfl
theorem d_V_sample_24 : decode b_V_sample 24 = .ok (.aload_n 0, 1) := dd_V_sample 16 (24, .aload_n 0, 1) rfl
theorem d_V_sample_25 : decode b_V_sample 25 = .ok (.getfield 7, 3) := dd_V_sample 17 (25, .getfield 7, 3) rfl
theorem d_V_sample_28 : decode b_V_sample 28 = .ok (.getfield 44, 3) := dd_V_sample 18 (28, .getfield 44, 3) rfl
theorem d_V_sample_31 : decode b_V_sample 31 = .ok (.arraylength, 1) := dd_V_sample 19 (31, .arraylength, 1) rfl
theorem d_V_sample_32 : decode b_V_sample 32 = .ok (.if_icmp .ge 15, 3) := dd_V_sample 20 (32, .if_icmp .ge 15, 3) rfl
theorem d_V_sample_35 : decode b_V_sample 35 = .ok (.aload_n 0, 1) := dd_V_sample 21 (35, .aload_n 0, 1) rfl
theorem d_V_sample_36 : decode b_V_sample 36 = .ok (.getfield 7, 3) := dd_V_sample 22 (36, .getfield 7, 3) rfl
theorem d_V_sample_39 : decode b_V_sample 39 = .ok (.getfield 44, 3) := dd_V_sample 23 (39, .getfield 44, 3) rfl
theorem d_V_sample_42 : decode b_V_sample 42 = .ok (.iload_n 3, 1) := dd_V_sample 24 (42, .iload_n 3, 1) rfl
theorem d_V_sample_43 : decode b_V_sample 43 = .ok (.iaload, 1) := dd_V_sample 25 (43, .iaload, 1) rfl
theorem d_V_sample_44 : decode b_V_sample 44 = .ok (.goto 4, 3) := dd_V_sample 26 (44, .goto 4, 3) rfl
theorem d_V_sample_47 : decode b_V_sample 47 = .ok (.iconst 0, 1) := dd_V_sample 27 (47, .iconst 0, 1) rfl
theorem d_V_sample_48 : decode b_V_sample 48 = .ok (.ireturn, 1) := dd_V_sample 28 (48, .ireturn, 1) rfl
def tb_V_cellFor : List (Nat × Instr × Nat) := [(0, .aload_n 0, 1), (1, .getfield 28, 3), (4, .iload_n 1, 1), (5, .iload_n 2, 1), (6, .iload_n 3, 1), (7, .iload 4, 2), (9, .invokestatic 48, 3), (12, .iadd, 1), (13, .aload_n 0, 1), (14, .getfield 7, 3), (17, .getfield 13, 3), (20, .imul, 1), (21, .aload_n 0, 1), (22, .getfield 25, 3), (25, .iadd, 1), (26, .iload_n 1, 1), (27, .iload_n 2, 1), (28, .iload_n 3, 1), (29, .iload 4, 2), (31, .invokestatic 51, 3), (34, .iadd, 1), (35, .ireturn, 1)]
theorem dd_V_cellFor : ∀ (i : Nat) (q : Nat × Instr × Nat), tb_V_cellFor[i]? = some q → decode b_V_cellFor q.1 = .ok (q.2.1, q.2.2) := z_tab (by decide +kernel)
theorem d_V_cellFor_0 : decode b_V_cellFor 0 = .ok (.aload_n 0, 1) := dd_V_cellFor 0 (0, .aload_n 0, 1) rfl
theorem d_V_cellFor_1 : decode b_V_cellFor 1 = .ok (.getfield 28, 3) := dd_V_cellFor 1 (1, .getfield 28, 3) rfl
theorem d_V_cellFor_4 : decode b_V_cellFor 4 = .ok (.iload_n 1, 1) := dd_V_cellFor 2 (4, .iload_n 1, 1) rfl
theorem d_V_cellFor_5 : decode b_V_cellFor 5 = .ok (.iload_n 2, 1) := dd_V_cellFor 3 (5, .iload_n 2, 1) rfl
theorem d_V_cellFor_6 : decode b_V_cellFor 6 = .ok (.iload_n 3, 1) := dd_V_cellFor 4 (6, .iload_n 3, 1) rfl
theorem d_V_cellFor_7 : decode b_V_cellFor 7 = .ok (.iload 4, 2) := dd_V_cellFor 5 (7, .iload 4, 2) rfl
theorem d_V_cellFor_9 : decode b_V_cellFor 9 = .ok (.invokestatic 48, 3) := dd_V_cellFor 6 (9, .invokestatic 48, 3) rfl
theorem d_V_cellFor_12 : decode b_V_cellFor 12 = .ok (.iadd, 1) := dd_V_cellFor 7 (12, .iadd, 1) rfl
theorem d_V_cellFor_13 : decode b_V_cellFor 13 = .ok (.aload_n 0, 1) := dd_V_cellFor 8 (13, .aload_n 0, 1) rfl
theorem d_V_cellFor_14 : decode b_V_cellFor 14 = .ok (.getfield 7, 3) := dd_V_cellFor 9 (14, .getfield 7, 3) rfl
theorem d_V_cellFor_17 : decode b_V_cellFor 17 = .ok (.getfield 13, 3) := dd_V_cellFor 10 (17, .getfield 13, 3) rfl
theorem d_V_cellFor_20 : decode b_V_cellFor 20 = .ok (.imul, 1) := dd_V_cellFor 11 (20, .imul, 1) rfl
theorem d_V_cellFor_21 : decode b_V_cellFor 21 = .ok (.aload_n 0, 1) := dd_V_cellFor 12 (21, .aload_n 0, 1) rfl
theorem d_V_cellFor_22 : decode b_V_cellFor 22 = .ok (.getfield 25, 3) := dd_V_cellFor 13 (22, .getfield 25, 3) rfl
theorem d_V_cellFor_25 : decode b_V_cellFor 25 = .ok (.iadd, 1) := dd_V_cellFor 14 (25, .iadd, 1) rfl
theorem d_V_cellFor_26 : decode b_V_cellFor 26 = .ok (.iload_n 1, 1) := dd_V_cellFor 15 (26, .iload_n 1, 1) rfl
theorem d_V_cellFor_27 : decode b_V_cellFor 27 = .ok (.iload_n 2, 1) := dd_V_cellFor 16 (27, .iload_n 2, 1) rfl
theorem d_V_cellFor_28 : decode b_V_cellFor 28 = .ok (.iload_n 3, 1) := dd_V_cellFor 17 (28, .iload_n 3, 1) rfl
theorem d_V_cellFor_29 : decode b_V_cellFor 29 = .ok (.iload 4, 2) := dd_V_cellFor 18 (29, .iload 4, 2) rfl
theorem d_V_cellFor_31 : decode b_V_cellFor 31 = .ok (.invokestatic 51, 3) := dd_V_cellFor 19 (31, .invokestatic 51, 3) rfl
theorem d_V_cellFor_34 : decode b_V_cellFor 34 = .ok (.iadd, 1) := dd_V_cellFor 20 (34, .iadd, 1) rfl
theorem d_V_cellFor_35 : decode b_V_cellFor 35 = .ok (.ireturn, 1) := dd_V_cellFor 21 (35, .ireturn, 1) rfl
def tb_V_sourceAcross : List (Nat × Instr × Nat) := [(0, .iload_n 0, 1), (1, .iconst 1, 1), (2, .isub, 1), (3, .istore 4, 2), (5, .iload_n 1, 1), (6, .iconst 3, 1), (7, .iand, 1), (8, .istore 5, 2), (10, .iload 5, 2), (12, .ifCond .eq 9, 3), (15, .iload 5, 2), (17, .iconst 2, 1), (18, .if_icmp .ne 7, 3), (21, .iload_n 2, 1), (22, .goto 4, 3), (25, .iload_n 3, 1), (26, .istore 6, 2), (28, .iload 5, 2), (30, .iconst 2, 1), (31, .if_icmp .ge 8, 3), (34, .iload 6, 2), (36, .goto 8, 3), (39, .iload 4, 2), (41, .iload 6, 2), (43, .isub, 1), (44, .istore 7, 2), (46, .iload_n 1, 1), (47, .iconst 4, 1), (48, .if_icmp .ge 8, 3), (51, .iload 7, 2), (53, .goto 8, 3), (56, .iload 4, 2), (58, .iload 7, 2), (60, .isub, 1), (61, .ireturn, 1)]
theorem dd_V_sourceAcross : ∀ (i : Nat) (q : Nat × Instr × Nat), tb_V_sourceAcross[i]? = some q → decode b_V_sourceAcross q.1 = .ok (q.2.1, q.2.2) := z_tab (by decide +kernel)
theorem d_V_sourceAcross_0 : decode b_V_sourceAcross 0 = .ok (.iload_n 0, 1) := dd_V_sourceAcross 0 (0, .iload_n 0, 1) rfl
theorem d_V_sourceAcross_1 : decode b_V_sourceAcross 1 = .ok (.iconst 1, 1) := dd_V_sourceAcross 1 (1, .iconst 1, 1) rfl
theorem d_V_sourceAcross_2 : decode b_V_sourceAcross 2 = .ok (.isub, 1) := dd_V_sourceAcross 2 (2, .isub, 1) rfl
theorem d_V_sourceAcross_3 : decode b_V_sourceAcross 3 = .ok (.istore 4, 2) := dd_V_sourceAcross 3 (3, .istore 4, 2) rfl
theorem d_V_sourceAcross_5 : decode b_V_sourceAcross 5 = .ok (.iload_n 1, 1) := dd_V_sourceAcross 4 (5, .iload_n 1, 1) rfl
theorem d_V_sourceAcross_6 : decode b_V_sourceAcross 6 = .ok (.iconst 3, 1) := dd_V_sourceAcross 5 (6, .iconst 3, 1) rfl
theorem d_V_sourceAcross_7 : decode b_V_sourceAcross 7 = .ok (.iand, 1) := dd_V_sourceAcross 6 (7, .iand, 1) rfl
theorem d_V_sourceAcross_8 : decode b_V_sourceAcross 8 = .ok (.istore 5, 2) := dd_V_sourceAcross 7 (8, .istore 5, 2) rfl
theorem d_V_sourceAcross_10 : decode b_V_sourceAcross 10 = .ok (.iload 5, 2) := dd_V_sourceAcross 8 (10, .iload 5, 2) rfl
theorem d_V_sourceAcross_12 : decode b_V_sourceAcross 12 = .ok (.ifCond .eq 9, 3) := dd_V_sourceAcross 9 (12, .ifCond .eq 9, 3) rfl
theorem d_V_sourceAcross_15 : decode b_V_sourceAcross 15 = .ok (.iload 5, 2) := dd_V_sourceAcross 10 (15, .iload 5, 2) rfl
theorem d_V_sourceAcross_17 : decode b_V_sourceAcross 17 = .ok (.iconst 2, 1) := dd_V_sourceAcross 11 (17, .iconst 2, 1) rfl
theorem d_V_sourceAcross_18 : decode b_V_sourceAcross 18 = .ok (.if_icmp .ne 7, 3) := dd_V_sourceAcross 12 (18, .if_icmp .ne 7, 3) rfl
theorem d_V_sourceAcross_21 : decode b_V_sourceAcross 21 = .ok (.iload_n 2, 1) := dd_V_sourceAcross 13 (21, .iload_n 2, 1) rfl
theorem d_V_sourceAcross_22 : decode b_V_sourceAcross 22 = .ok (.goto 4, 3) := dd_V_sourceAcross 14 (22, .goto 4, 3) rfl
theorem d_V_sourceAcross_25 : decode b_V_sourceAcross 25 = .ok (.iload_n 3, 1) := dd_V_sourceAcross 15 (25, .iload_n 3, 1) rfl
theorem d_V_sourceAcross_26 : decode b_V_sourceAcross 26 = .ok (.istore 6, 2) := dd_V_sourceAcross 16 (26, .istore 6, 2) rfl
theorem d_V_sourceAcross_28 : decode b_V_sourceAcross 28 = .ok (.iload 5, 2) := dd_V_sourceAcross 17 (28, .iload 5, 2) rfl
theorem d_V_sourceAcross_30 : decode b_V_sourceAcross 30 = .ok (.iconst 2, 1) := dd_V_sourceAcross 18 (30, .iconst 2, 1) rfl
theorem d_V_sourceAcross_31 : decode b_V_sourceAcross 31 = .ok (.if_icmp .ge 8, 3) := dd_V_sourceAcross 19 (31, .if_icmp .ge 8, 3) rfl
theorem d_V_sourceAcross_34 : decode b_V_sourceAcross 34 = .ok (.iload 6, 2) := dd_V_sourceAcross 20 (34, .iload 6, 2) rfl
theorem d_V_sourceAcross_36 : decode b_V_sourceAcross 36 = .ok (.goto 8, 3) := dd_V_sourceAcross 21 (36, .goto 8, 3) rfl
theorem d_V_sourceAcross_39 : decode b_V_sourceAcross 39 = .ok (.iload 4, 2) := dd_V_sourceAcross 22 (39, .iload 4, 2) rfl
theorem d_V_sourceAcross_41 : decode b_V_sourceAcross 41 = .ok (.iload 6, 2) := dd_V_sourceAcross 23 (41, .iload 6, 2) rfl
theorem d_V_sourceAcross_43 : decode b_V_sourceAcross 43 = .ok (.isub, 1) := dd_V_sourceAcross 24 (43, .isub, 1) rfl
theorem d_V_sourceAcross_44 : decode b_V_sourceAcross 44 = .ok (.istore 7, 2) := dd_V_sourceAcross 25 (44, .istore 7, 2) rfl
theorem d_V_sourceAcross_46 : decode b_V_sourceAcross 46 = .ok (.iload_n 1, 1) := dd_V_sourceAcross 26 (46, .iload_n 1, 1) rfl
theorem d_V_sourceAcross_47 : decode b_V_sourceAcross 47 = .ok (.iconst 4, 1) := dd_V_sourceAcross 27 (47, .iconst 4, 1) rfl
theorem d_V_sourceAcross_48 : decode b_V_sourceAcross 48 = .ok (.if_icmp .ge 8, 3) := dd_V_sourceAcross 28 (48, .if_icmp .ge 8, 3) rfl
theorem d_V_sourceAcross_51 : decode b_V_sourceAcross 51 = .ok (.iload 7, 2) := dd_V_sourceAcross 29 (51, .iload 7, 2) rfl
theorem d_V_sourceAcross_53 : decode b_V_sourceAcross 53 = .ok (.goto 8, 3) := dd_V_sourceAcross 30 (53, .goto 8, 3) rfl
theorem d_V_sourceAcross_56 : decode b_V_sourceAcross 56 = .ok (.iload 4, 2) := dd_V_sourceAcross 31 (56, .iload 4, 2) rfl
theorem d_V_sourceAcross_58 : decode b_V_sourceAcross 58 = .ok (.iload 7, 2) := dd_V_sourceAcross 32 (58, .iload 7, 2) rfl
theorem d_V_sourceAcross_60 : decode b_V_sourceAcross 60 = .ok (.isub, 1) := dd_V_sourceAcross 33 (60, .isub, 1) rfl
theorem d_V_sourceAcross_61 : decode b_V_sourceAcross 61 = .ok (.ireturn, 1) := dd_V_sourceAcross 34 (61, .ireturn, 1) rfl
def tb_V_sourceDown : List (Nat × Instr × Nat) := [(0, .iload_n 0, 1), (1, .iconst 1, 1), (2, .isub, 1), (3, .istore 4, 2), (5, .iload_n 1, 1), (6, .iconst 3, 1), (7, .iand, 1), (8, .istore 5, 2), (10, .iload 5, 2), (12, .ifCond .eq 9, 3), (15, .iload 5, 2), (17, .iconst 2, 1), (18, .if_icmp .ne 7, 3), (21, .iload_n 3, 1), (22, .goto 4, 3), (25, .iload_n 2, 1), (26, .istore 6, 2), (28, .iload 5, 2), (30, .ifCond .eq 9, 3), (33, .iload 5, 2), (35, .iconst 3, 1), (36, .if_icmp .ne 8, 3), (39, .iload 6, 2), (41, .goto 8, 3), (44, .iload 4, 2), (46, .iload 6, 2), (48, .isub, 1), (49, .ireturn, 1)]
theorem dd_V_sourceDown : ∀ (i : Nat) (q : Nat × Instr × Nat), tb_V_sourceDown[i]? = some q → decode b_V_sourceDown q.1 = .ok (q.2.1, q.2.2) := z_tab (by decide +kernel)
theorem d_V_sourceDown_0 : decode b_V_sourceDown 0 = .ok (.iload_n 0, 1) := dd_V_sourceDown 0 (0, .iload_n 0, 1) rfl
theorem d_V_sourceDown_1 : decode b_V_sourceDown 1 = .ok (.iconst 1, 1) := dd_V_sourceDown 1 (1, .iconst 1, 1) rfl
theorem d_V_sourceDown_2 : decode b_V_sourceDown 2 = .ok (.isub, 1) := dd_V_sourceDown 2 (2, .isub, 1) rfl
theorem d_V_sourceDown_3 : decode b_V_sourceDown 3 = .ok (.istore 4, 2) := dd_V_sourceDown 3 (3, .istore 4, 2) rfl
theorem d_V_sourceDown_5 : decode b_V_sourceDown 5 = .ok (.iload_n 1, 1) := dd_V_sourceDown 4 (5, .iload_n 1, 1) rfl
theorem d_V_sourceDown_6 : decode b_V_sourceDown 6 = .ok (.iconst 3, 1) := dd_V_sourceDown 5 (6, .iconst 3, 1) rfl
theorem d_V_sourceDown_7 : decode b_V_sourceDown 7 = .ok (.iand, 1) := dd_V_sourceDown 6 (7, .iand, 1) rfl
theorem d_V_sourceDown_8 : decode b_V_sourceDown 8 = .ok (.istore 5, 2) := dd_V_sourceDown 7 (8, .istore 5, 2) rfl
theorem d_V_sourceDown_10 : decode b_V_sourceDown 10 = .ok (.iload 5, 2) := dd_V_sourceDown 8 (10, .iload 5, 2) rfl
theorem d_V_sourceDown_12 : decode b_V_sourceDown 12 = .ok (.ifCond .eq 9, 3) := dd_V_sourceDown 9 (12, .ifCond .eq 9, 3) rfl
theorem d_V_sourceDown_15 : decode b_V_sourceDown 15 = .ok (.iload 5, 2) := dd_V_sourceDown 10 (15, .iload 5, 2) rfl
theorem d_V_sourceDown_17 : decode b_V_sourceDown 17 = .ok (.iconst 2, 1) := dd_V_sourceDown 11 (17, .iconst 2, 1) rfl
theorem d_V_sourceDown_18 : decode b_V_sourceDown 18 = .ok (.if_icmp .ne 7, 3) := dd_V_sourceDown 12 (18, .if_icmp .ne 7, 3) rfl
theorem d_V_sourceDown_21 : decode b_V_sourceDown 21 = .ok (.iload_n 3, 1) := dd_V_sourceDown 13 (21, .iload_n 3, 1) rfl
theorem d_V_sourceDown_22 : decode b_V_sourceDown 22 = .ok (.goto 4, 3) := dd_V_sourceDown 14 (22, .goto 4, 3) rfl
theorem d_V_sourceDown_25 : decode b_V_sourceDown 25 = .ok (.iload_n 2, 1) := dd_V_sourceDown 15 (25, .iload_n 2, 1) rfl
theorem d_V_sourceDown_26 : decode b_V_sourceDown 26 = .ok (.istore 6, 2) := dd_V_sourceDown 16 (26, .istore 6, 2) rfl
theorem d_V_sourceDown_28 : decode b_V_sourceDown 28 = .ok (.iload 5, 2) := dd_V_sourceDown 17 (28, .iload 5, 2) rfl
theorem d_V_sourceDown_30 : decode b_V_sourceDown 30 = .ok (.ifCond .eq 9, 3) := dd_V_sourceDown 18 (30, .ifCond .eq 9, 3) rfl
theorem d_V_sourceDown_33 : decode b_V_sourceDown 33 = .ok (.iload 5, 2) := dd_V_sourceDown 19 (33, .iload 5, 2) rfl
theorem d_V_sourceDown_35 : decode b_V_sourceDown 35 = .ok (.iconst 3, 1) := dd_V_sourceDown 20 (35, .iconst 3, 1) rfl
theorem d_V_sourceDown_36 : decode b_V_sourceDown 36 = .ok (.if_icmp .ne 8, 3) := dd_V_sourceDown 21 (36, .if_icmp .ne 8, 3) rfl
theorem d_V_sourceDown_39 : decode b_V_sourceDown 39 = .ok (.iload 6, 2) := dd_V_sourceDown 22 (39, .iload 6, 2) rfl
theorem d_V_sourceDown_41 : decode b_V_sourceDown 41 = .ok (.goto 8, 3) := dd_V_sourceDown 23 (41, .goto 8, 3) rfl
theorem d_V_sourceDown_44 : decode b_V_sourceDown 44 = .ok (.iload 4, 2) := dd_V_sourceDown 24 (44, .iload 4, 2) rfl
theorem d_V_sourceDown_46 : decode b_V_sourceDown 46 = .ok (.iload 6, 2) := dd_V_sourceDown 25 (46, .iload 6, 2) rfl
theorem d_V_sourceDown_48 : decode b_V_sourceDown 48 = .ok (.isub, 1) := dd_V_sourceDown 26 (48, .isub, 1) rfl
theorem d_V_sourceDown_49 : decode b_V_sourceDown 49 = .ok (.ireturn, 1) := dd_V_sourceDown 27 (49, .ireturn, 1) rfl
def tb_V_sourceQuarter : List (Nat × Instr × Nat) := [(0, .iload_n 1, 1), (1, .invokestatic 54, 3), (4, .istore_n 2, 1), (5, .iload_n 1, 1), (6, .invokestatic 58, 3), (9, .istore_n 3, 1), (10, .iconst 2, 1), (11, .iconst 2, 1), (12, .iload_n 0, 1), (13, .iload_n 2, 1), (14, .iload_n 3, 1), (15, .invokestatic 48, 3), (18, .imul, 1), (19, .iconst 2, 1), (20, .iload_n 0, 1), (21, .iload_n 2, 1), (22, .iload_n 3, 1), (23, .invokestatic 51, 3), (26, .iadd, 1), (27, .ireturn, 1)]
theorem dd_V_sourceQuarter : ∀ (i : Nat) (q : Nat × Instr × Nat), tb_V_sourceQuarter[i]? = some q → decode b_V_sourceQuarter q.1 = .ok (q.2.1, q.2.2) := z_tab (by decide +kernel)
theorem d_V_sourceQuarter_0 : decode b_V_sourceQuarter 0 = .ok (.iload_n 1, 1) := dd_V_sourceQuarter 0 (0, .iload_n 1, 1) rfl
theorem d_V_sourceQuarter_1 : decode b_V_sourceQuarter 1 = .ok (.invokestatic 54, 3) := dd_V_sourceQuarter 1 (1, .invokestatic 54, 3) rfl
theorem d_V_sourceQuarter_4 : decode b_V_sourceQuarter 4 = .ok (.istore_n 2, 1) := dd_V_sourceQuarter 2 (4, .istore_n 2, 1) rfl
theorem d_V_sourceQuarter_5 : decode b_V_sourceQuarter 5 = .ok (.iload_n 1, 1) := dd_V_sourceQuarter 3 (5, .iload_n 1, 1) rfl
theorem d_V_sourceQuarter_6 : decode b_V_sourceQuarter 6 = .ok (.invokestatic 58, 3) := dd_V_sourceQuarter 4 (6, .invokestatic 58, 3) rfl
theorem d_V_sourceQuarter_9 : decode b_V_sourceQuarter 9 = .ok (.istore_n 3, 1) := dd_V_sourceQuarter 5 (9, .istore_n 3, 1) rfl
theorem d_V_sourceQuarter_10 : decode b_V_sourceQuarter 10 = .ok (.iconst 2, 1) := dd_V_sourceQuarter 6 (10, .iconst 2, 1) rfl
theorem d_V_sourceQuarter_11 : decode b_V_sourceQuarter 11 = .ok (.iconst 2, 1) := dd_V_sourceQuarter 7 (11, .iconst 2, 1) rfl
theorem d_V_sourceQuarter_12 : decode b_V_sourceQuarter 12 = .ok (.iload_n 0, 1) := dd_V_sourceQuarter 8 (12, .iload_n 0, 1) rfl
theorem d_V_sourceQuarter_13 : decode b_V_sourceQuarter 13 = .ok (.iload_n 2, 1) := dd_V_sourceQuarter 9 (13, .iload_n 2, 1) rfl
theorem d_V_sourceQuarter_14 : decode b_V_sourceQuarter 14 = .ok (.iload_n 3, 1) := dd_V_sourceQuarter 10 (14, .iload_n 3, 1) rfl
theorem d_V_sourceQuarter_15 : decode b_V_sourceQuarter 15 = .ok (.invokestatic 48, 3) := dd_V_sourceQuarter 11 (15, .invokestatic 48, 3) rfl
theorem d_V_sourceQuarter_18 : decode b_V_sourceQuarter 18 = .ok (.imul, 1) := dd_V_sourceQuarter 12 (18, .imul, 1) rfl
theorem d_V_sourceQuarter_19 : decode b_V_sourceQuarter 19 = .ok (.iconst 2, 1) := dd_V_sourceQuarter 13 (19, .iconst 2, 1) rfl
theorem d_V_sourceQuarter_20 : decode b_V_sourceQuarter 20 = .ok (.iload_n 0, 1) := dd_V_sourceQuarter 14 (20, .iload_n 0, 1) rfl
theorem d_V_sourceQuarter_21 : decode b_V_sourceQuarter 21 = .ok (.iload_n 2, 1) := dd_V_sourceQuarter 15 (21, .iload_n 2, 1) rfl
theorem d_V_sourceQuarter_22 : decode b_V_sourceQuarter 22 = .ok (.iload_n 3, 1) := dd_V_sourceQuarter 16 (22, .iload_n 3, 1) rfl
theorem d_V_sourceQuarter_23 : decode b_V_sourceQuarter 23 = .ok (.invokestatic 51, 3) := dd_V_sourceQuarter 17 (23, .invokestatic 51, 3) rfl
theorem d_V_sourceQuarter_26 : decode b_V_sourceQuarter 26 = .ok (.iadd, 1) := dd_V_sourceQuarter 18 (26, .iadd, 1) rfl
theorem d_V_sourceQuarter_27 : decode b_V_sourceQuarter 27 = .ok (.ireturn, 1) := dd_V_sourceQuarter 19 (27, .ireturn, 1) rfl
def tb_L_cell : List (Nat × Instr × Nat) := [(0, .iload_n 1, 1), (1, .aload_n 0, 1), (2, .arraylength, 1), (3, .if_icmp .ge 9, 3), (6, .aload_n 0, 1), (7, .iload_n 1, 1), (8, .iaload, 1), (9, .goto 4, 3), (12, .iconst 0, 1), (13, .ireturn, 1)]
theorem dd_L_cell : ∀ (i : Nat) (q : Nat × Instr × Nat), tb_L_cell[i]? = some q → decode b_L_cell q.1 = .ok (q.2.1, q.2.2) := z_tab (by decide +kernel)
theorem d_L_cell_0 : decode b_L_cell 0 = .ok (.iload_n 1, 1) := dd_L_cell 0 (0, .iload_n 1, 1) rfl
theorem d_L_cell_1 : decode b_L_cell 1 = .ok (.aload_n 0, 1) := dd_L_cell 1 (1, .aload_n 0, 1) rfl
theorem d_L_cell_2 : decode b_L_cell 2 = .ok (.arraylength, 1) := dd_L_cell 2 (2, .arraylength, 1) rfl
theorem d_L_cell_3 : decode b_L_cell 3 = .ok (.if_icmp .ge 9, 3) := dd_L_cell 3 (3, .if_icmp .ge 9, 3) rfl
theorem d_L_cell_6 : decode b_L_cell 6 = .ok (.aload_n 0, 1) := dd_L_cell 4 (6, .aload_n 0, 1) rfl
theorem d_L_cell_7 : decode b_L_cell 7 = .ok (.iload_n 1, 1) := dd_L_cell 5 (7, .iload_n 1, 1) rfl
theorem d_L_cell_8 : decode b_L_cell 8 = .ok (.iaload, 1) := dd_L_cell 6 (8, .iaload, 1) rfl
theorem d_L_cell_9 : decode b_L_cell 9 = .ok (.goto 4, 3) := dd_L_cell 7 (9, .goto 4, 3) rfl
theorem d_L_cell_12 : decode b_L_cell 12 = .ok (.iconst 0, 1) := dd_L_cell 8 (12, .iconst 0, 1) rfl
theorem d_L_cell_13 : decode b_L_cell 13 = .ok (.ireturn, 1) := dd_L_cell 9 (13, .ireturn, 1) rfl
def tb_L_put : List (Nat × Instr × Nat) := [(0, .aload 4, 2), (2, .iconst 0, 1), (3, .aload_n 0, 1), (4, .iload_n 1, 1), (5, .iload_n 2, 1), (6, .iload_n 3, 1), (7, .invokevirtual 7, 3), (10, .i2l, 1), (11, .lastore, 1), (12, .goto 11, 3), (15, .astore 5, 2), (17, .iconst 1, 1), (18, .ireturn, 1), (19, .astore 5, 2), (21, .iconst 2, 1), (22, .ireturn, 1), (23, .iconst 0, 1), (24, .ireturn, 1)]
theorem dd_L_put : ∀ (i : Nat) (q : Nat × Instr × Nat), tb_L_put[i]? = some q → decode b_L_put q.1 = .ok (q.2.1, q.2.2) := z_tab (by decide +kernel)
theorem d_L_put_0 : decode b_L_put 0 = .ok (.aload 4, 2) := dd_L_put 0 (0, .aload 4, 2) rfl
theorem d_L_put_2 : decode b_L_put 2 = .ok (.iconst 0, 1) := dd_L_put 1 (2, .iconst 0, 1) rfl
theorem d_L_put_3 : decode b_L_put 3 = .ok (.aload_n 0, 1) := dd_L_put 2 (3, .aload_n 0, 1) rfl
theorem d_L_put_4 : decode b_L_put 4 = .ok (.iload_n 1, 1) := dd_L_put 3 (4, .iload_n 1, 1) rfl
theorem d_L_put_5 : decode b_L_put 5 = .ok (.iload_n 2, 1) := dd_L_put 4 (5, .iload_n 2, 1) rfl
theorem d_L_put_6 : decode b_L_put 6 = .ok (.iload_n 3, 1) := dd_L_put 5 (6, .iload_n 3, 1) rfl
theorem d_L_put_7 : decode b_L_put 7 = .ok (.invokevirtual 7, 3) := dd_L_put 6 (7, .invokevirtual 7, 3) rfl
theorem d_L_put_10 : decode b_L_put 10 = .ok (.i2l, 1) := dd_L_put 7 (10, .i2l, 1) rfl
theorem d_L_put_11 : decode b_L_put 11 = .ok (.lastore, 1) := dd_L_put 8 (11, .lastore, 1) rfl
theorem d_L_put_12 : decode b_L_put 12 = .ok (.goto 11, 3) := dd_L_put 9 (12, .goto 11, 3) rfl
theorem d_L_put_15 : decode b_L_put 15 = .ok (.astore 5, 2) := dd_L_put 10 (15, .astore 5, 2) rfl
theorem d_L_put_17 : decode b_L_put 17 = .ok (.iconst 1, 1) := dd_L_put 11 (17, .iconst 1, 1) rfl
theorem d_L_put_18 : decode b_L_put 18 = .ok (.ireturn, 1) := dd_L_put 12 (18, .ireturn, 1) rfl
theorem d_L_put_19 : decode b_L_put 19 = .ok (.astore 5, 2) := dd_L_put 13 (19, .astore 5, 2) rfl
theorem d_L_put_21 : decode b_L_put 21 = .ok (.iconst 2, 1) := dd_L_put 14 (21, .iconst 2, 1) rfl
theorem d_L_put_22 : decode b_L_put 22 = .ok (.ireturn, 1) := dd_L_put 15 (22, .ireturn, 1) rfl
theorem d_L_put_23 : decode b_L_put 23 = .ok (.iconst 0, 1) := dd_L_put 16 (23, .iconst 0, 1) rfl
theorem d_L_put_24 : decode b_L_put 24 = .ok (.ireturn, 1) := dd_L_put 17 (24, .ireturn, 1) rfl
def tb_L_encode : List (Nat × Instr × Nat) := [(0, .aload_n 3, 1), (1, .iconst 0, 1), (2, .aload_n 0, 1), (3, .iload_n 1, 1), (4, .iload_n 2, 1), (5, .invokevirtual 17, 3), (8, .i2l, 1), (9, .lastore, 1), (10, .goto 7, 3), (13, .astore 4, 2), (15, .iconst 1, 1), (16, .ireturn, 1), (17, .iconst 0, 1), (18, .ireturn, 1)]
theorem dd_L_encode : ∀ (i : Nat) (q : Nat × Instr × Nat), tb_L_encode[i]? = some q → decode b_L_encode q.1 = .ok (q.2.1, q.2.2) := z_tab (by decide +kernel)
theorem d_L_encode_0 : decode b_L_encode 0 = .ok (.aload_n 3, 1) := dd_L_encode 0 (0, .aload_n 3, 1) rfl
theorem d_L_encode_1 : decode b_L_encode 1 = .ok (.iconst 0, 1) := dd_L_encode 1 (1, .iconst 0, 1) rfl
theorem d_L_encode_2 : decode b_L_encode 2 = .ok (.aload_n 0, 1) := dd_L_encode 2 (2, .aload_n 0, 1) rfl
theorem d_L_encode_3 : decode b_L_encode 3 = .ok (.iload_n 1, 1) := dd_L_encode 3 (3, .iload_n 1, 1) rfl
theorem d_L_encode_4 : decode b_L_encode 4 = .ok (.iload_n 2, 1) := dd_L_encode 4 (4, .iload_n 2, 1) rfl
theorem d_L_encode_5 : decode b_L_encode 5 = .ok (.invokevirtual 17, 3) := dd_L_encode 5 (5, .invokevirtual 17, 3) rfl
theorem d_L_encode_8 : decode b_L_encode 8 = .ok (.i2l, 1) := dd_L_encode 6 (8, .i2l, 1) rfl
theorem d_L_encode_9 : decode b_L_encode 9 = .ok (.lastore, 1) := dd_L_encode 7 (9, .lastore, 1) rfl
theorem d_L_encode_10 : decode b_L_encode 10 = .ok (.goto 7, 3) := dd_L_encode 8 (10, .goto 7, 3) rfl
theorem d_L_encode_13 : decode b_L_encode 13 = .ok (.astore 4, 2) := dd_L_encode 9 (13, .astore 4, 2) rfl
theorem d_L_encode_15 : decode b_L_encode 15 = .ok (.iconst 1, 1) := dd_L_encode 10 (15, .iconst 1, 1) rfl
theorem d_L_encode_16 : decode b_L_encode 16 = .ok (.ireturn, 1) := dd_L_encode 11 (16, .ireturn, 1) rfl
theorem d_L_encode_17 : decode b_L_encode 17 = .ok (.iconst 0, 1) := dd_L_encode 12 (17, .iconst 0, 1) rfl
theorem d_L_encode_18 : decode b_L_encode 18 = .ok (.ireturn, 1) := dd_L_encode 13 (18, .ireturn, 1) rfl
def tb_L_block : List (Nat × Instr × Nat) := [(0, .aload_n 3, 1), (1, .iconst 0, 1), (2, .aload_n 0, 1), (3, .iload_n 1, 1), (4, .iload_n 2, 1), (5, .invokevirtual 21, 3), (8, .i2l, 1), (9, .lastore, 1), (10, .goto 11, 3), (13, .astore 4, 2), (15, .iconst 1, 1), (16, .ireturn, 1), (17, .astore 4, 2), (19, .iconst 2, 1), (20, .ireturn, 1), (21, .iconst 0, 1), (22, .ireturn, 1)]
theorem dd_L_block : ∀ (i : Nat) (q : Nat × Instr × Nat), tb_L_block[i]? = some q → decode b_L_block q.1 = .ok (q.2.1, q.2.2) := z_tab (by decide +kernel)
theorem d_L_block_0 : decode b_L_block 0 = .ok (.aload_n 3, 1) := dd_L_block 0 (0, .aload_n 3, 1) rfl
theorem d_L_block_1 : decode b_L_block 1 = .ok (.iconst 0, 1) := dd_L_block 1 (1, .iconst 0, 1) rfl
theorem d_L_block_2 : decode b_L_block 2 = .ok (.aload_n 0, 1) := dd_L_block 2 (2, .aload_n 0, 1) rfl
theorem d_L_block_3 : decode b_L_block 3 = .ok (.iload_n 1, 1) := dd_L_block 3 (3, .iload_n 1, 1) rfl
theorem d_L_block_4 : decode b_L_block 4 = .ok (.iload_n 2, 1) := dd_L_block 4 (4, .iload_n 2, 1) rfl
theorem d_L_block_5 : decode b_L_block 5 = .ok (.invokevirtual 21, 3) := dd_L_block 5 (5, .invokevirtual 21, 3) rfl
theorem d_L_block_8 : decode b_L_block 8 = .ok (.i2l, 1) := dd_L_block 6 (8, .i2l, 1) rfl
theorem d_L_block_9 : decode b_L_block 9 = .ok (.lastore, 1) := dd_L_block 7 (9, .lastore, 1) rfl
theorem d_L_block_10 : decode b_L_block 10 = .ok (.goto 11, 3) := dd_L_block 8 (10, .goto 11, 3) rfl
theorem d_L_block_13 : decode b_L_block 13 = .ok (.astore 4, 2) := dd_L_block 9 (13, .astore 4, 2) rfl
theorem d_L_block_15 : decode b_L_block 15 = .ok (.iconst 1, 1) := dd_L_block 10 (15, .iconst 1, 1) rfl
theorem d_L_block_16 : decode b_L_block 16 = .ok (.ireturn, 1) := dd_L_block 11 (16, .ireturn, 1) rfl
theorem d_L_block_17 : decode b_L_block 17 = .ok (.astore 4, 2) := dd_L_block 12 (17, .astore 4, 2) rfl
theorem d_L_block_19 : decode b_L_block 19 = .ok (.iconst 2, 1) := dd_L_block 13 (19, .iconst 2, 1) rfl
theorem d_L_block_20 : decode b_L_block 20 = .ok (.ireturn, 1) := dd_L_block 14 (20, .ireturn, 1) rfl
theorem d_L_block_21 : decode b_L_block 21 = .ok (.iconst 0, 1) := dd_L_block 15 (21, .iconst 0, 1) rfl
theorem d_L_block_22 : decode b_L_block 22 = .ok (.ireturn, 1) := dd_L_block 16 (22, .ireturn, 1) rfl
def tb_L_byteAt : List (Nat × Instr × Nat) := [(0, .aload_n 2, 1), (1, .iconst 0, 1), (2, .aload_n 0, 1), (3, .iload_n 1, 1), (4, .invokevirtual 24, 3), (7, .i2l, 1), (8, .lastore, 1), (9, .goto 6, 3), (12, .astore_n 3, 1), (13, .iconst 1, 1), (14, .ireturn, 1), (15, .iconst 0, 1), (16, .ireturn, 1)]
theorem dd_L_byteAt : ∀ (i : Nat) (q : Nat × Instr × Nat), tb_L_byteAt[i]? = some q → decode b_L_byteAt q.1 = .ok (q.2.1, q.2.2) := z_tab (by decide +kernel)
theorem d_L_byteAt_0 : decode b_L_byteAt 0 = .ok (.aload_n 2, 1) := dd_L_byteAt 0 (0, .aload_n 2, 1) rfl
theorem d_L_byteAt_1 : decode b_L_byteAt 1 = .ok (.iconst 0, 1) := dd_L_byteAt 1 (1, .iconst 0, 1) rfl
theorem d_L_byteAt_2 : decode b_L_byteAt 2 = .ok (.aload_n 0, 1) := dd_L_byteAt 2 (2, .aload_n 0, 1) rfl
theorem d_L_byteAt_3 : decode b_L_byteAt 3 = .ok (.iload_n 1, 1) := dd_L_byteAt 3 (3, .iload_n 1, 1) rfl
theorem d_L_byteAt_4 : decode b_L_byteAt 4 = .ok (.invokevirtual 24, 3) := dd_L_byteAt 4 (4, .invokevirtual 24, 3) rfl
theorem d_L_byteAt_7 : decode b_L_byteAt 7 = .ok (.i2l, 1) := dd_L_byteAt 5 (7, .i2l, 1) rfl
theorem d_L_byteAt_8 : decode b_L_byteAt 8 = .ok (.lastore, 1) := dd_L_byteAt 6 (8, .lastore, 1) rfl
theorem d_L_byteAt_9 : decode b_L_byteAt 9 = .ok (.goto 6, 3) := dd_L_byteAt 7 (9, .goto 6, 3) rfl
theorem d_L_byteAt_12 : decode b_L_byteAt 12 = .ok (.astore_n 3, 1) := dd_L_byteAt 8 (12, .astore_n 3, 1) rfl
theorem d_L_byteAt_13 : decode b_L_byteAt 13 = .ok (.iconst 1, 1) := dd_L_byteAt 9 (13, .iconst 1, 1) rfl
theorem d_L_byteAt_14 : decode b_L_byteAt 14 = .ok (.ireturn, 1) := dd_L_byteAt 10 (14, .ireturn, 1) rfl
theorem d_L_byteAt_15 : decode b_L_byteAt 15 = .ok (.iconst 0, 1) := dd_L_byteAt 11 (15, .iconst 0, 1) rfl
theorem d_L_byteAt_16 : decode b_L_byteAt 16 = .ok (.ireturn, 1) := dd_L_byteAt 12 (16, .ireturn, 1) rfl
def tb_L_feed : List (Nat × Instr × Nat) := [(0, .aload_n 2, 1), (1, .iconst 0, 1), (2, .aload_n 0, 1), (3, .iload_n 1, 1), (4, .invokevirtual 28, 3), (7, .i2l, 1), (8, .lastore, 1), (9, .goto 9, 3), (12, .astore_n 3, 1), (13, .iconst 1, 1), (14, .ireturn, 1), (15, .astore_n 3, 1), (16, .iconst 2, 1), (17, .ireturn, 1), (18, .iconst 0, 1), (19, .ireturn, 1)]
theorem dd_L_feed : ∀ (i : Nat) (q : Nat × Instr × Nat), tb_L_feed[i]? = some q → decode b_L_feed q.1 = .ok (q.2.1, q.2.2) := z_tab (by decide +kernel)
theorem d_L_feed_0 : decode b_L_feed 0 = .ok (.aload_n 2, 1) := dd_L_feed 0 (0, .aload_n 2, 1) rfl
theorem d_L_feed_1 : decode b_L_feed 1 = .ok (.iconst 0, 1) := dd_L_feed 1 (1, .iconst 0, 1) rfl
theorem d_L_feed_2 : decode b_L_feed 2 = .ok (.aload_n 0, 1) := dd_L_feed 2 (2, .aload_n 0, 1) rfl
theorem d_L_feed_3 : decode b_L_feed 3 = .ok (.iload_n 1, 1) := dd_L_feed 3 (3, .iload_n 1, 1) rfl
theorem d_L_feed_4 : decode b_L_feed 4 = .ok (.invokevirtual 28, 3) := dd_L_feed 4 (4, .invokevirtual 28, 3) rfl
theorem d_L_feed_7 : decode b_L_feed 7 = .ok (.i2l, 1) := dd_L_feed 5 (7, .i2l, 1) rfl
theorem d_L_feed_8 : decode b_L_feed 8 = .ok (.lastore, 1) := dd_L_feed 6 (8, .lastore, 1) rfl
theorem d_L_feed_9 : decode b_L_feed 9 = .ok (.goto 9, 3) := dd_L_feed 7 (9, .goto 9, 3) rfl
theorem d_L_feed_12 : decode b_L_feed 12 = .ok (.astore_n 3, 1) := dd_L_feed 8 (12, .astore_n 3, 1) rfl
theorem d_L_feed_13 : decode b_L_feed 13 = .ok (.iconst 1, 1) := dd_L_feed 9 (13, .iconst 1, 1) rfl
theorem d_L_feed_14 : decode b_L_feed 14 = .ok (.ireturn, 1) := dd_L_feed 10 (14, .ireturn, 1) rfl
theorem d_L_feed_15 : decode b_L_feed 15 = .ok (.astore_n 3, 1) := dd_L_feed 11 (15, .astore_n 3, 1) rfl
theorem d_L_feed_16 : decode b_L_feed 16 = .ok (.iconst 2, 1) := dd_L_feed 12 (16, .iconst 2, 1) rfl
theorem d_L_feed_17 : decode b_L_feed 17 = .ok (.ireturn, 1) := dd_L_feed 13 (17, .ireturn, 1) rfl
theorem d_L_feed_18 : decode b_L_feed 18 = .ok (.iconst 0, 1) := dd_L_feed 14 (18, .iconst 0, 1) rfl
theorem d_L_feed_19 : decode b_L_feed 19 = .ok (.ireturn, 1) := dd_L_feed 15 (19, .ireturn, 1) rfl
def tb_L_pass : List (Nat × Instr × Nat) := [(0, .aload_n 1, 1), (1, .iconst 0, 1), (2, .aload_n 0, 1), (3, .invokevirtual 33, 3), (6, .i2l, 1), (7, .lastore, 1), (8, .goto 6, 3), (11, .astore_n 2, 1), (12, .iconst 1, 1), (13, .ireturn, 1), (14, .iconst 0, 1), (15, .ireturn, 1)]
theorem dd_L_pass : ∀ (i : Nat) (q : Nat × Instr × Nat), tb_L_pass[i]? = some q → decode b_L_pass q.1 = .ok (q.2.1, q.2.2) := z_tab (by decide +kernel)
theorem d_L_pass_0 : decode b_L_pass 0 = .ok (.aload_n 1, 1) := dd_L_pass 0 (0, .aload_n 1, 1) rfl
theorem d_L_pass_1 : decode b_L_pass 1 = .ok (.iconst 0, 1) := dd_L_pass 1 (1, .iconst 0, 1) rfl
theorem d_L_pass_2 : decode b_L_pass 2 = .ok (.aload_n 0, 1) := dd_L_pass 2 (2, .aload_n 0, 1) rfl
theorem d_L_pass_3 : decode b_L_pass 3 = .ok (.invokevirtual 33, 3) := dd_L_pass 3 (3, .invokevirtual 33, 3) rfl
theorem d_L_pass_6 : decode b_L_pass 6 = .ok (.i2l, 1) := dd_L_pass 4 (6, .i2l, 1) rfl
theorem d_L_pass_7 : decode b_L_pass 7 = .ok (.lastore, 1) := dd_L_pass 5 (7, .lastore, 1) rfl
theorem d_L_pass_8 : decode b_L_pass 8 = .ok (.goto 6, 3) := dd_L_pass 6 (8, .goto 6, 3) rfl
theorem d_L_pass_11 : decode b_L_pass 11 = .ok (.astore_n 2, 1) := dd_L_pass 7 (11, .astore_n 2, 1) rfl
theorem d_L_pass_12 : decode b_L_pass 12 = .ok (.iconst 1, 1) := dd_L_pass 8 (12, .iconst 1, 1) rfl
theorem d_L_pass_13 : decode b_L_pass 13 = .ok (.ireturn, 1) := dd_L_pass 9 (13, .ireturn, 1) rfl
theorem d_L_pass_14 : decode b_L_pass 14 = .ok (.iconst 0, 1) := dd_L_pass 10 (14, .iconst 0, 1) rfl
theorem d_L_pass_15 : decode b_L_pass 15 = .ok (.ireturn, 1) := dd_L_pass 11 (15, .ireturn, 1) rfl
def tb_L_decode : List (Nat × Instr × Nat) := [(0, .aload_n 3, 1), (1, .iconst 0, 1), (2, .aload_n 0, 1), (3, .iload_n 1, 1), (4, .iload_n 2, 1), (5, .invokevirtual 37, 3), (8, .i2l, 1), (9, .lastore, 1), (10, .goto 11, 3), (13, .astore 4, 2), (15, .iconst 1, 1), (16, .ireturn, 1), (17, .astore 4, 2), (19, .iconst 2, 1), (20, .ireturn, 1), (21, .iconst 0, 1), (22, .ireturn, 1)]
theorem dd_L_decode : ∀ (i : Nat) (q : Nat × Instr × Nat), tb_L_decode[i]? = some q → decode b_L_decode q.1 = .ok (q.2.1, q.2.2) := z_tab (by decide +kernel)
theorem d_L_decode_0 : decode b_L_decode 0 = .ok (.aload_n 3, 1) := dd_L_decode 0 (0, .aload_n 3, 1) rfl
theorem d_L_decode_1 : decode b_L_decode 1 = .ok (.iconst 0, 1) := dd_L_decode 1 (1, .iconst 0, 1) rfl
theorem d_L_decode_2 : decode b_L_decode 2 = .ok (.aload_n 0, 1) := dd_L_decode 2 (2, .aload_n 0, 1) rfl
theorem d_L_decode_3 : decode b_L_decode 3 = .ok (.iload_n 1, 1) := dd_L_decode 3 (3, .iload_n 1, 1) rfl
theorem d_L_decode_4 : decode b_L_decode 4 = .ok (.iload_n 2, 1) := dd_L_decode 4 (4, .iload_n 2, 1) rfl
theorem d_L_decode_5 : decode b_L_decode 5 = .ok (.invokevirtual 37, 3) := dd_L_decode 5 (5, .invokevirtual 37, 3) rfl
theorem d_L_decode_8 : decode b_L_decode 8 = .ok (.i2l, 1) := dd_L_decode 6 (8, .i2l, 1) rfl
theorem d_L_decode_9 : decode b_L_decode 9 = .ok (.lastore, 1) := dd_L_decode 7 (9, .lastore, 1) rfl
theorem d_L_decode_10 : decode b_L_decode 10 = .ok (.goto 11, 3) := dd_L_decode 8 (10, .goto 11, 3) rfl
theorem d_L_decode_13 : decode b_L_decode 13 = .ok (.astore 4, 2) := dd_L_decode 9 (13, .astore 4, 2) rfl
theorem d_L_decode_15 : decode b_L_decode 15 = .ok (.iconst 1, 1) := dd_L_decode 10 (15, .iconst 1, 1) rfl
theorem d_L_decode_16 : decode b_L_decode 16 = .ok (.ireturn, 1) := dd_L_decode 11 (16, .ireturn, 1) rfl
theorem d_L_decode_17 : decode b_L_decode 17 = .ok (.astore 4, 2) := dd_L_decode 12 (17, .astore 4, 2) rfl
theorem d_L_decode_19 : decode b_L_decode 19 = .ok (.iconst 2, 1) := dd_L_decode 13 (19, .iconst 2, 1) rfl
theorem d_L_decode_20 : decode b_L_decode 20 = .ok (.ireturn, 1) := dd_L_decode 14 (20, .ireturn, 1) rfl
theorem d_L_decode_21 : decode b_L_decode 21 = .ok (.iconst 0, 1) := dd_L_decode 15 (21, .iconst 0, 1) rfl
theorem d_L_decode_22 : decode b_L_decode 22 = .ok (.ireturn, 1) := dd_L_decode 16 (22, .ireturn, 1) rfl
def tb_L_at : List (Nat × Instr × Nat) := [(0, .aload_n 3, 1), (1, .iconst 0, 1), (2, .aload_n 0, 1), (3, .iload_n 1, 1), (4, .iload_n 2, 1), (5, .invokevirtual 42, 3), (8, .i2l, 1), (9, .lastore, 1), (10, .goto 7, 3), (13, .astore 4, 2), (15, .iconst 1, 1), (16, .ireturn, 1), (17, .iconst 0, 1), (18, .ireturn, 1)]
theorem dd_L_at : ∀ (i : Nat) (q : Nat × Instr × Nat), tb_L_at[i]? = some q → decode b_L_at q.1 = .ok (q.2.1, q.2.2) := z_tab (by decide +kernel)
theorem d_L_at_0 : decode b_L_at 0 = .ok (.aload_n 3, 1) := dd_L_at 0 (0, .aload_n 3, 1) rfl
theorem d_L_at_1 : decode b_L_at 1 = .ok (.iconst 0, 1) := dd_L_at 1 (1, .iconst 0, 1) rfl
theorem d_L_at_2 : decode b_L_at 2 = .ok (.aload_n 0, 1) := dd_L_at 2 (2, .aload_n 0, 1) rfl
theorem d_L_at_3 : decode b_L_at 3 = .ok (.iload_n 1, 1) := dd_L_at 3 (3, .iload_n 1, 1) rfl
theorem d_L_at_4 : decode b_L_at 4 = .ok (.iload_n 2, 1) := dd_L_at 4 (4, .iload_n 2, 1) rfl
theorem d_L_at_5 : decode b_L_at 5 = .ok (.invokevirtual 42, 3) := dd_L_at 5 (5, .invokevirtual 42, 3) rfl
theorem d_L_at_8 : decode b_L_at 8 = .ok (.i2l, 1) := dd_L_at 6 (8, .i2l, 1) rfl
theorem d_L_at_9 : decode b_L_at 9 = .ok (.lastore, 1) := dd_L_at 7 (9, .lastore, 1) rfl
theorem d_L_at_10 : decode b_L_at 10 = .ok (.goto 7, 3) := dd_L_at 8 (10, .goto 7, 3) rfl
theorem d_L_at_13 : decode b_L_at 13 = .ok (.astore 4, 2) := dd_L_at 9 (13, .astore 4, 2) rfl
theorem d_L_at_15 : decode b_L_at 15 = .ok (.iconst 1, 1) := dd_L_at 10 (15, .iconst 1, 1) rfl
theorem d_L_at_16 : decode b_L_at 16 = .ok (.ireturn, 1) := dd_L_at 11 (16, .ireturn, 1) rfl
theorem d_L_at_17 : decode b_L_at 17 = .ok (.iconst 0, 1) := dd_L_at 12 (17, .iconst 0, 1) rfl
theorem d_L_at_18 : decode b_L_at 18 = .ok (.ireturn, 1) := dd_L_at 13 (18, .ireturn, 1) rfl
def tb_L_missed : List (Nat × Instr × Nat) := [(0, .aload_n 1, 1), (1, .iconst 0, 1), (2, .aload_n 0, 1), (3, .invokevirtual 45, 3), (6, .lastore, 1), (7, .goto 6, 3), (10, .astore_n 2, 1), (11, .iconst 1, 1), (12, .ireturn, 1), (13, .iconst 0, 1), (14, .ireturn, 1)]
theorem dd_L_missed : ∀ (i : Nat) (q : Nat × Instr × Nat), tb_L_missed[i]? = some q → decode b_L_missed q.1 = .ok (q.2.1, q.2.2) := z_tab (by decide +kernel)
theorem d_L_missed_0 : decode b_L_missed 0 = .ok (.aload_n 1, 1) := dd_L_missed 0 (0, .aload_n 1, 1) rfl
theorem d_L_missed_1 : decode b_L_missed 1 = .ok (.iconst 0, 1) := dd_L_missed 1 (1, .iconst 0, 1) rfl
theorem d_L_missed_2 : decode b_L_missed 2 = .ok (.aload_n 0, 1) := dd_L_missed 2 (2, .aload_n 0, 1) rfl
theorem d_L_missed_3 : decode b_L_missed 3 = .ok (.invokevirtual 45, 3) := dd_L_missed 3 (3, .invokevirtual 45, 3) rfl
theorem d_L_missed_6 : decode b_L_missed 6 = .ok (.lastore, 1) := dd_L_missed 4 (6, .lastore, 1) rfl
theorem d_L_missed_7 : decode b_L_missed 7 = .ok (.goto 6, 3) := dd_L_missed 5 (7, .goto 6, 3) rfl
theorem d_L_missed_10 : decode b_L_missed 10 = .ok (.astore_n 2, 1) := dd_L_missed 6 (10, .astore_n 2, 1) rfl
theorem d_L_missed_11 : decode b_L_missed 11 = .ok (.iconst 1, 1) := dd_L_missed 7 (11, .iconst 1, 1) rfl
theorem d_L_missed_12 : decode b_L_missed 12 = .ok (.ireturn, 1) := dd_L_missed 8 (12, .ireturn, 1) rfl
theorem d_L_missed_13 : decode b_L_missed 13 = .ok (.iconst 0, 1) := dd_L_missed 9 (13, .iconst 0, 1) rfl
theorem d_L_missed_14 : decode b_L_missed 14 = .ok (.ireturn, 1) := dd_L_missed 10 (14, .ireturn, 1) rfl
def tb_L_domain : List (Nat × Instr × Nat) := [(0, .aload 6, 2), (2, .iconst 0, 1), (3, .aload_n 0, 1), (4, .iload_n 1, 1), (5, .iload_n 2, 1), (6, .iload_n 3, 1), (7, .iload 4, 2), (9, .iload 5, 2), (11, .invokevirtual 49, 3), (14, .i2l, 1), (15, .lastore, 1), (16, .goto 11, 3), (19, .astore 7, 2), (21, .iconst 1, 1), (22, .ireturn, 1), (23, .astore 7, 2), (25, .iconst 2, 1), (26, .ireturn, 1), (27, .iconst 0, 1), (28, .ireturn, 1)]
theorem dd_L_domain : ∀ (i : Nat) (q : Nat × Instr × Nat), tb_L_domain[i]? = some q → decode b_L_domain q.1 = .ok (q.2.1, q.2.2) := z_tab (by decide +kernel)
theorem d_L_domain_0 : decode b_L_domain 0 = .ok (.aload 6, 2) := dd_L_domain 0 (0, .aload 6, 2) rfl
theorem d_L_domain_2 : decode b_L_domain 2 = .ok (.iconst 0, 1) := dd_L_domain 1 (2, .iconst 0, 1) rfl
theorem d_L_domain_3 : decode b_L_domain 3 = .ok (.aload_n 0, 1) := dd_L_domain 2 (3, .aload_n 0, 1) rfl
theorem d_L_domain_4 : decode b_L_domain 4 = .ok (.iload_n 1, 1) := dd_L_domain 3 (4, .iload_n 1, 1) rfl
theorem d_L_domain_5 : decode b_L_domain 5 = .ok (.iload_n 2, 1) := dd_L_domain 4 (5, .iload_n 2, 1) rfl
theorem d_L_domain_6 : decode b_L_domain 6 = .ok (.iload_n 3, 1) := dd_L_domain 5 (6, .iload_n 3, 1) rfl
theorem d_L_domain_7 : decode b_L_domain 7 = .ok (.iload 4, 2) := dd_L_domain 6 (7, .iload 4, 2) rfl
theorem d_L_domain_9 : decode b_L_domain 9 = .ok (.iload 5, 2) := dd_L_domain 7 (9, .iload 5, 2) rfl
theorem d_L_domain_11 : decode b_L_domain 11 = .ok (.invokevirtual 49, 3) := dd_L_domain 8 (11, .invokevirtual 49, 3) rfl
theorem d_L_domain_14 : decode b_L_domain 14 = .ok (.i2l, 1) := dd_L_domain 9 (14, .i2l, 1) rfl
theorem d_L_domain_15 : decode b_L_domain 15 = .ok (.lastore, 1) := dd_L_domain 10 (15, .lastore, 1) rfl
theorem d_L_domain_16 : decode b_L_domain 16 = .ok (.goto 11, 3) := dd_L_domain 11 (16, .goto 11, 3) rfl
theorem d_L_domain_19 : decode b_L_domain 19 = .ok (.astore 7, 2) := dd_L_domain 12 (19, .astore 7, 2) rfl
theorem d_L_domain_21 : decode b_L_domain 21 = .ok (.iconst 1, 1) := dd_L_domain 13 (21, .iconst 1, 1) rfl
theorem d_L_domain_22 : decode b_L_domain 22 = .ok (.ireturn, 1) := dd_L_domain 14 (22, .ireturn, 1) rfl
theorem d_L_domain_23 : decode b_L_domain 23 = .ok (.astore 7, 2) := dd_L_domain 15 (23, .astore 7, 2) rfl
theorem d_L_domain_25 : decode b_L_domain 25 = .ok (.iconst 2, 1) := dd_L_domain 16 (25, .iconst 2, 1) rfl
theorem d_L_domain_26 : decode b_L_domain 26 = .ok (.ireturn, 1) := dd_L_domain 17 (26, .ireturn, 1) rfl
theorem d_L_domain_27 : decode b_L_domain 27 = .ok (.iconst 0, 1) := dd_L_domain 18 (27, .iconst 0, 1) rfl
theorem d_L_domain_28 : decode b_L_domain 28 = .ok (.ireturn, 1) := dd_L_domain 19 (28, .ireturn, 1) rfl
def tb_L_kind : List (Nat × Instr × Nat) := [(0, .aload 4, 2), (2, .iconst 0, 1), (3, .aload_n 0, 1), (4, .iload_n 1, 1), (5, .iload_n 2, 1), (6, .iload_n 3, 1), (7, .invokevirtual 53, 3), (10, .i2l, 1), (11, .lastore, 1), (12, .goto 11, 3), (15, .astore 5, 2), (17, .iconst 1, 1), (18, .ireturn, 1), (19, .astore 5, 2), (21, .iconst 2, 1), (22, .ireturn, 1), (23, .iconst 0, 1), (24, .ireturn, 1)]
theorem dd_L_kind : ∀ (i : Nat) (q : Nat × Instr × Nat), tb_L_kind[i]? = some q → decode b_L_kind q.1 = .ok (q.2.1, q.2.2) := z_tab (by decide +kernel)
theorem d_L_kind_0 : decode b_L_kind 0 = .ok (.aload 4, 2) := dd_L_kind 0 (0, .aload 4, 2) rfl
theorem d_L_kind_2 : decode b_L_kind 2 = .ok (.iconst 0, 1) := dd_L_kind 1 (2, .iconst 0, 1) rfl
theorem d_L_kind_3 : decode b_L_kind 3 = .ok (.aload_n 0, 1) := dd_L_kind 2 (3, .aload_n 0, 1) rfl
theorem d_L_kind_4 : decode b_L_kind 4 = .ok (.iload_n 1, 1) := dd_L_kind 3 (4, .iload_n 1, 1) rfl
theorem d_L_kind_5 : decode b_L_kind 5 = .ok (.iload_n 2, 1) := dd_L_kind 4 (5, .iload_n 2, 1) rfl
theorem d_L_kind_6 : decode b_L_kind 6 = .ok (.iload_n 3, 1) := dd_L_kind 5 (6, .iload_n 3, 1) rfl
theorem d_L_kind_7 : decode b_L_kind 7 = .ok (.invokevirtual 53, 3) := dd_L_kind 6 (7, .invokevirtual 53, 3) rfl
theorem d_L_kind_10 : decode b_L_kind 10 = .ok (.i2l, 1) := dd_L_kind 7 (10, .i2l, 1) rfl
theorem d_L_kind_11 : decode b_L_kind 11 = .ok (.lastore, 1) := dd_L_kind 8 (11, .lastore, 1) rfl
theorem d_L_kind_12 : decode b_L_kind 12 = .ok (.goto 11, 3) := dd_L_kind 9 (12, .goto 11, 3) rfl
theorem d_L_kind_15 : decode b_L_kind 15 = .ok (.astore 5, 2) := dd_L_kind 10 (15, .astore 5, 2) rfl
theorem d_L_kind_17 : decode b_L_kind 17 = .ok (.iconst 1, 1) := dd_L_kind 11 (17, .iconst 1, 1) rfl
theorem d_L_kind_18 : decode b_L_kind 18 = .ok (.ireturn, 1) := dd_L_kind 12 (18, .ireturn, 1) rfl
theorem d_L_kind_19 : decode b_L_kind 19 = .ok (.astore 5, 2) := dd_L_kind 13 (19, .astore 5, 2) rfl
theorem d_L_kind_21 : decode b_L_kind 21 = .ok (.iconst 2, 1) := dd_L_kind 14 (21, .iconst 2, 1) rfl
theorem d_L_kind_22 : decode b_L_kind 22 = .ok (.ireturn, 1) := dd_L_kind 15 (22, .ireturn, 1) rfl
theorem d_L_kind_23 : decode b_L_kind 23 = .ok (.iconst 0, 1) := dd_L_kind 16 (23, .iconst 0, 1) rfl
theorem d_L_kind_24 : decode b_L_kind 24 = .ok (.ireturn, 1) := dd_L_kind 17 (24, .ireturn, 1) rfl
def tb_JM_floorDiv0 : List (Nat × Instr × Nat) := [(0, .iload_n 0, 1), (1, .iload_n 1, 1), (2, .idiv, 1), (3, .istore_n 2, 1), (4, .iload_n 0, 1), (5, .iload_n 1, 1), (6, .ixor, 1), (7, .ifCond .ge 14, 3), (10, .iload_n 2, 1), (11, .iload_n 1, 1), (12, .imul, 1), (13, .iload_n 0, 1), (14, .if_icmp .eq 7, 3), (17, .iload_n 2, 1), (18, .iconst 1, 1), (19, .isub, 1), (20, .ireturn, 1), (21, .iload_n 2, 1), (22, .ireturn, 1)]
theorem dd_JM_floorDiv0 : ∀ (i : Nat) (q : Nat × Instr × Nat), tb_JM_floorDiv0[i]? = some q → decode b_JM_floorDiv0 q.1 = .ok (q.2.1, q.2.2) := z_tab (by decide +kernel)
theorem d_JM_floorDiv0_0 : decode b_JM_floorDiv0 0 = .ok (.iload_n 0, 1) := dd_JM_floorDiv0 0 (0, .iload_n 0, 1) rfl
theorem d_JM_floorDiv0_1 : decode b_JM_floorDiv0 1 = .ok (.iload_n 1, 1) := dd_JM_floorDiv0 1 (1, .iload_n 1, 1) rfl
theorem d_JM_floorDiv0_2 : decode b_JM_floorDiv0 2 = .ok (.idiv, 1) := dd_JM_floorDiv0 2 (2, .idiv, 1) rfl
theorem d_JM_floorDiv0_3 : decode b_JM_floorDiv0 3 = .ok (.istore_n 2, 1) := dd_JM_floorDiv0 3 (3, .istore_n 2, 1) rfl
theorem d_JM_floorDiv0_4 : decode b_JM_floorDiv0 4 = .ok (.iload_n 0, 1) := dd_JM_floorDiv0 4 (4, .iload_n 0, 1) rfl
theorem d_JM_floorDiv0_5 : decode b_JM_floorDiv0 5 = .ok (.iload_n 1, 1) := dd_JM_floorDiv0 5 (5, .iload_n 1, 1) rfl
theorem d_JM_floorDiv0_6 : decode b_JM_floorDiv0 6 = .ok (.ixor, 1) := dd_JM_floorDiv0 6 (6, .ixor, 1) rfl
theorem d_JM_floorDiv0_7 : decode b_JM_floorDiv0 7 = .ok (.ifCond .ge 14, 3) := dd_JM_floorDiv0 7 (7, .ifCond .ge 14, 3) rfl
theorem d_JM_floorDiv0_10 : decode b_JM_floorDiv0 10 = .ok (.iload_n 2, 1) := dd_JM_floorDiv0 8 (10, .iload_n 2, 1) rfl
theorem d_JM_floorDiv0_11 : decode b_JM_floorDiv0 11 = .ok (.iload_n 1, 1) := dd_JM_floorDiv0 9 (11, .iload_n 1, 1) rfl
theorem d_JM_floorDiv0_12 : decode b_JM_floorDiv0 12 = .ok (.imul, 1) := dd_JM_floorDiv0 10 (12, .imul, 1) rfl
theorem d_JM_floorDiv0_13 : decode b_JM_floorDiv0 13 = .ok (.iload_n 0, 1) := dd_JM_floorDiv0 11 (13, .iload_n 0, 1) rfl
theorem d_JM_floorDiv0_14 : decode b_JM_floorDiv0 14 = .ok (.if_icmp .eq 7, 3) := dd_JM_floorDiv0 12 (14, .if_icmp .eq 7, 3) rfl
theorem d_JM_floorDiv0_17 : decode b_JM_floorDiv0 17 = .ok (.iload_n 2, 1) := dd_JM_floorDiv0 13 (17, .iload_n 2, 1) rfl
theorem d_JM_floorDiv0_18 : decode b_JM_floorDiv0 18 = .ok (.iconst 1, 1) := dd_JM_floorDiv0 14 (18, .iconst 1, 1) rfl
theorem d_JM_floorDiv0_19 : decode b_JM_floorDiv0 19 = .ok (.isub, 1) := dd_JM_floorDiv0 15 (19, .isub, 1) rfl
theorem d_JM_floorDiv0_20 : decode b_JM_floorDiv0 20 = .ok (.ireturn, 1) := dd_JM_floorDiv0 16 (20, .ireturn, 1) rfl
theorem d_JM_floorDiv0_21 : decode b_JM_floorDiv0 21 = .ok (.iload_n 2, 1) := dd_JM_floorDiv0 17 (21, .iload_n 2, 1) rfl
theorem d_JM_floorDiv0_22 : decode b_JM_floorDiv0 22 = .ok (.ireturn, 1) := dd_JM_floorDiv0 18 (22, .ireturn, 1) rfl
def tb_JM_floorDiv1 : List (Nat × Instr × Nat) := [(0, .lload_n 0, 1), (1, .lload_n 2, 1), (2, .ldiv, 1), (3, .lstore 4, 2), (5, .lload_n 0, 1), (6, .lload_n 2, 1), (7, .lxor, 1), (8, .lconst 0, 1), (9, .lcmp, 1), (10, .ifCond .ge 17, 3), (13, .lload 4, 2), (15, .lload_n 2, 1), (16, .lmul, 1), (17, .lload_n 0, 1), (18, .lcmp, 1), (19, .ifCond .eq 8, 3), (22, .lload 4, 2), (24, .lconst 1, 1), (25, .lsub, 1), (26, .lreturn, 1), (27, .lload 4, 2), (29, .lreturn, 1)]
theorem dd_JM_floorDiv1 : ∀ (i : Nat) (q : Nat × Instr × Nat), tb_JM_floorDiv1[i]? = some q → decode b_JM_floorDiv1 q.1 = .ok (q.2.1, q.2.2) := z_tab (by decide +kernel)
theorem d_JM_floorDiv1_0 : decode b_JM_floorDiv1 0 = .ok (.lload_n 0, 1) := dd_JM_floorDiv1 0 (0, .lload_n 0, 1) rfl
theorem d_JM_floorDiv1_1 : decode b_JM_floorDiv1 1 = .ok (.lload_n 2, 1) := dd_JM_floorDiv1 1 (1, .lload_n 2, 1) rfl
theorem d_JM_floorDiv1_2 : decode b_JM_floorDiv1 2 = .ok (.ldiv, 1) := dd_JM_floorDiv1 2 (2, .ldiv, 1) rfl
theorem d_JM_floorDiv1_3 : decode b_JM_floorDiv1 3 = .ok (.lstore 4, 2) := dd_JM_floorDiv1 3 (3, .lstore 4, 2) rfl
theorem d_JM_floorDiv1_5 : decode b_JM_floorDiv1 5 = .ok (.lload_n 0, 1) := dd_JM_floorDiv1 4 (5, .lload_n 0, 1) rfl
theorem d_JM_floorDiv1_6 : decode b_JM_floorDiv1 6 = .ok (.lload_n 2, 1) := dd_JM_floorDiv1 5 (6, .lload_n 2, 1) rfl
theorem d_JM_floorDiv1_7 : decode b_JM_floorDiv1 7 = .ok (.lxor, 1) := dd_JM_floorDiv1 6 (7, .lxor, 1) rfl
theorem d_JM_floorDiv1_8 : decode b_JM_floorDiv1 8 = .ok (.lconst 0, 1) := dd_JM_floorDiv1 7 (8, .lconst 0, 1) rfl
theorem d_JM_floorDiv1_9 : decode b_JM_floorDiv1 9 = .ok (.lcmp, 1) := dd_JM_floorDiv1 8 (9, .lcmp, 1) rfl
theorem d_JM_floorDiv1_10 : decode b_JM_floorDiv1 10 = .ok (.ifCond .ge 17, 3) := dd_JM_floorDiv1 9 (10, .ifCond .ge 17, 3) rfl
theorem d_JM_floorDiv1_13 : decode b_JM_floorDiv1 13 = .ok (.lload 4, 2) := dd_JM_floorDiv1 10 (13, .lload 4, 2) rfl
theorem d_JM_floorDiv1_15 : decode b_JM_floorDiv1 15 = .ok (.lload_n 2, 1) := dd_JM_floorDiv1 11 (15, .lload_n 2, 1) rfl
theorem d_JM_floorDiv1_16 : decode b_JM_floorDiv1 16 = .ok (.lmul, 1) := dd_JM_floorDiv1 12 (16, .lmul, 1) rfl
theorem d_JM_floorDiv1_17 : decode b_JM_floorDiv1 17 = .ok (.lload_n 0, 1) := dd_JM_floorDiv1 13 (17, .lload_n 0, 1) rfl
theorem d_JM_floorDiv1_18 : decode b_JM_floorDiv1 18 = .ok (.lcmp, 1) := dd_JM_floorDiv1 14 (18, .lcmp, 1) rfl
theorem d_JM_floorDiv1_19 : decode b_JM_floorDiv1 19 = .ok (.ifCond .eq 8, 3) := dd_JM_floorDiv1 15 (19, .ifCond .eq 8, 3) rfl
theorem d_JM_floorDiv1_22 : decode b_JM_floorDiv1 22 = .ok (.lload 4, 2) := dd_JM_floorDiv1 16 (22, .lload 4, 2) rfl
theorem d_JM_floorDiv1_24 : decode b_JM_floorDiv1 24 = .ok (.lconst 1, 1) := dd_JM_floorDiv1 17 (24, .lconst 1, 1) rfl
theorem d_JM_floorDiv1_25 : decode b_JM_floorDiv1 25 = .ok (.lsub, 1) := dd_JM_floorDiv1 18 (25, .lsub, 1) rfl
theorem d_JM_floorDiv1_26 : decode b_JM_floorDiv1 26 = .ok (.lreturn, 1) := dd_JM_floorDiv1 19 (26, .lreturn, 1) rfl
theorem d_JM_floorDiv1_27 : decode b_JM_floorDiv1 27 = .ok (.lload 4, 2) := dd_JM_floorDiv1 20 (27, .lload 4, 2) rfl
theorem d_JM_floorDiv1_29 : decode b_JM_floorDiv1 29 = .ok (.lreturn, 1) := dd_JM_floorDiv1 21 (29, .lreturn, 1) rfl
def tb_JA_fill : List (Nat × Instr × Nat) := [(0, .iconst 0, 1), (1, .istore_n 2, 1), (2, .aload_n 0, 1), (3, .arraylength, 1), (4, .istore_n 3, 1), (5, .iload_n 2, 1), (6, .iload_n 3, 1), (7, .if_icmp .ge 13, 3), (10, .aload_n 0, 1), (11, .iload_n 2, 1), (12, .iload_n 1, 1), (13, .iastore, 1), (14, .iinc 2 1, 3), (17, .goto (-12), 3), (20, .return_, 1)]
theorem dd_JA_fill : ∀ (i : Nat) (q : Nat × Instr × Nat), tb_JA_fill[i]? = some q → decode b_JA_fill q.1 = .ok (q.2.1, q.2.2) := z_tab (by decide +kernel)
theorem d_JA_fill_0 : decode b_JA_fill 0 = .ok (.iconst 0, 1) := dd_JA_fill 0 (0, .iconst 0, 1) rfl
theorem d_JA_fill_1 : decode b_JA_fill 1 = .ok (.istore_n 2, 1) := dd_JA_fill 1 (1, .istore_n 2, 1) rfl
theorem d_JA_fill_2 : decode b_JA_fill 2 = .ok (.aload_n 0, 1) := dd_JA_fill 2 (2, .aload_n 0, 1) rfl
theorem d_JA_fill_3 : decode b_JA_fill 3 = .ok (.arraylength, 1) := dd_JA_fill 3 (3, .arraylength, 1) rfl
theorem d_JA_fill_4 : decode b_JA_fill 4 = .ok (.istore_n 3, 1) := dd_JA_fill 4 (4, .istore_n 3, 1) rfl
theorem d_JA_fill_5 : decode b_JA_fill 5 = .ok (.iload_n 2, 1) := dd_JA_fill 5 (5, .iload_n 2, 1) rfl
theorem d_JA_fill_6 : decode b_JA_fill 6 = .ok (.iload_n 3, 1) := dd_JA_fill 6 (6, .iload_n 3, 1) rfl
theorem d_JA_fill_7 : decode b_JA_fill 7 = .ok (.if_icmp .ge 13, 3) := dd_JA_fill 7 (7, .if_icmp .ge 13, 3) rfl
theorem d_JA_fill_10 : decode b_JA_fill 10 = .ok (.aload_n 0, 1) := dd_JA_fill 8 (10, .aload_n 0, 1) rfl
theorem d_JA_fill_11 : decode b_JA_fill 11 = .ok (.iload_n 2, 1) := dd_JA_fill 9 (11, .iload_n 2, 1) rfl
theorem d_JA_fill_12 : decode b_JA_fill 12 = .ok (.iload_n 1, 1) := dd_JA_fill 10 (12, .iload_n 1, 1) rfl
theorem d_JA_fill_13 : decode b_JA_fill 13 = .ok (.iastore, 1) := dd_JA_fill 11 (13, .iastore, 1) rfl
theorem d_JA_fill_14 : decode b_JA_fill 14 = .ok (.iinc 2 1, 3) := dd_JA_fill 12 (14, .iinc 2 1, 3) rfl
theorem d_JA_fill_17 : decode b_JA_fill 17 = .ok (.goto (-12), 3) := dd_JA_fill 13 (17, .goto (-12), 3) rfl
theorem d_JA_fill_20 : decode b_JA_fill 20 = .ok (.return_, 1) := dd_JA_fill 14 (20, .return_, 1) rfl
