def tb_V_sample : List (Nat × Instr × Nat) := [(0, .aload_n 0, 1), (1, .getfield 35, 3), (4, .iload_n 1, 1), (5, .aload_n 0, 1), (6, .getfield 38, 3), (9, .imul, 1), (10, .iadd, 1), (11, .iload_n 2, 1), (12, .aload_n 0, 1), (13, .getfield 41, 3), (16, .imul, 1), (17, .iadd, 1), (18, .istore_n 3, 1), (19, .iload_n 3, 1), (20, .ifCond .lt 27, 3), (23, .iload_n 3, 1), (24, .aload_n 0, 1), (25, .getfield 7, 3), (28, .getfield 44, 3), (31, .arraylength, 1), (32, .if_icmp .ge 15, 3), (35, .aload_n 0, 1), (36, .getfield 7, 3), (39, .getfield 44, 3), (42, .iload_n 3, 1), (43, .iaload, 1), (44, .goto 4, 3), (47, .iconst 0, 1), (48, .ireturn, 1)]
theorem dd_V_sample : ∀ (i : Nat) (q : Nat × Instr × Nat), tb_V_sample[i]? = some q → decode b_V_sample q.1 = .ok (q.2.1, q.2.2) := z_tab (by decide +kernel)
theorem d_V_sample_0 : decode b_V_sample 0 = .ok (.aload_n 0, 1) := dd_V_sample 0 (0, .aload_n 0, 1) rfl
theorem d_V_sample_1 : decode b_V_sample 1 = .ok (.getfield 35, 3) := dd_V_sample 1 (1, .getfield 35, 3) rfl
theorem d_V_sample_4 : decode b_V_sample 4 = .ok (.iload_n 1, 1) := dd_V_sample 2 (4, .iload_n 1, 1) rfl
theorem d_V_sample_5 : decode b_V_sample 5 = .ok (.aload_n 0, 1) := dd_V_sample 3 (5, .aload_n 0, 1) rfl
theorem d_V_sample_6 : decode b_V_sample 6 = .ok (.getfield 38, 3) := dd_V_sample 4 (6, .getfield 38, 3) rfl
theorem d_V_sample_9 : decode b_V_sample 9 = .ok (.imul, 1) := dd_V_sample 5 (9, .imul, 1) rfl
theorem d_V_sample_10 : decode b_V_sample 10 = .ok (.iadd, 1) := dd_V_sample 6 (10, .iadd, 1) rfl
theorem d_V_sample_11 : decode b_V_sample 11 = .ok (.iload_n 2, 1) := dd_V_sample 7 (11, .iload_n 2, 1) rfl
theorem d_V_sample_12 : decode b_V_sample 12 = .ok (.aload_n 0, 1) := dd_V_sample 8 (12, .aload_n 0, 1) rfl
theorem d_V_sample_13 : decode b_V_sample 13 = .ok (.getfield 41, 3) := dd_V_sample 9 (13, .getfield 41, 3) rfl
theorem d_V_sample_16 : decode b_V_sample 16 = .ok (.imul, 1) := dd_V_sample 10 (16, .imul, 1) rfl
theorem d_V_sample_17 : decode b_V_sample 17 = .ok (.iadd, 1) := dd_V_sample 11 (17, .iadd, 1) rfl
theorem d_V_sample_18 : decode b_V_sample 18 = .ok (.istore_n 3, 1) := dd_V_sample 12 (18, .istore_n 3, 1) rfl
theorem d_V_sample_19 : decode b_V_sample 19 = .ok (.iload_n 3, 1) := dd_V_sample 13 (19, .iload_n 3, 1) rfl
theorem d_V_sample_20 : decode b_V_sample 20 = .ok (.ifCond .lt 27, 3) := dd_V_sample 14 (20, .ifCond .lt 27, 3) rfl
theorem d_V_sample_23 : decode b_V_sample 23 = .ok (.iload_n 3, 1) := dd_V_sample 15 (23, .iload_n 3, 1) rfl
theorem d_V_sample_24 : decode b_V_sample 24 = .ok (.aload_n 0, 1) := dd_V_sample 16 (24, .aload_n 0, 1) rfl
theorem d_V_sample_25 : decode b_V_sample 25 = .ok (.getfield 7, 3) := dd_V_sample 17 (25, .getfield 7, 3) rfl
theorem d_V_sample_28 : decode b_V_sample 28 = .ok (.getfield 44, 3) := dd_V_sample 18 (28, .getfield 44, 3) rfl
theorem d_V_sample_31 : decode b_V_sample 31 = .ok (.arraylength, 1) := dd_V_sample 19 (31, .arraylength, 1) rfl
theorem d_V_sample_32 : decode b_V_sample 32 = .ok (.if_icmp .ge 15, 3) := dd_V_sample 20 (32, .if_icmp .ge 15, 3) rfl
theorem d_V_sample_35 : decode b_V_sample 35 = .ok (.aload_n 0, 1) := dd_V_sample 21 (35, .aload_n 0, 1) rfl
theorem d_V_sample_36 : decode b_V_sample 36 = .ok (.getfield 7, 3) := dd_V_sample 22 (36, .getfield 7, 3) rfl
theorem d_V_sample_39 : decode b_V_sample 39 = .ok (.getfield 44, 3) := dd_V_sample 23 (39, .getfield 44, 3) rfl
theorem d_V_sample_42 : decode b_V_sample 42 = .ok (.iload_n 3, 1) := dd_V_sample 24 (42, .iload_n 3, 1) rfl
theorem d_V_sample_43 : decode b_V_sample 43 = .ok (.iaload, 1) := dd_V_sample 25 (43, .iaload, 1) rfl
theorem d_V_sample_44 : decode b_V_sample 44 = .ok (.goto 4, 3) := dd_V_sample 26 (44, .goto 4, 3) rfl
theorem d_V_sample_47 : decode b_V_sample 47 = .ok (.iconst 0, 1) := dd_V_sample 27 (47, .iconst 0, 1) rfl
theorem d_V_sample_48 : decode b_V_sample 48 = .ok (.ireturn, 1) := dd_V_sample 28 (48, .ireturn, 1) rfl
def tb_V_cellFor : List (Nat × Instr × Nat) := [(0, .aload_n 0, 1), (1, .getfield 28, 3), (4, .iload_n 1, 1), (5, .iload_n 2, 1), (6, .iload_n 3, 1), (7, .iload 4, 2), (9, .invokestatic 48, 3), (12, .iadd, 1), (13, .aload_n 0, 1), (14, .getfield 7, 3), (17, .getfield 13, 3), (20, .imul, 1), (21, .aload_n 0, 1), (22, .getfield 25, 3), (25, .iadd, 1), (26, .iload_n 1, 1), (27, .iload_n 2, 1), (28, .iload_n 3, 1), (29, .iload 4, 2), (31, .invokestatic 51, 3), (34, .iadd, 1), (35, .ireturn, 1)]
theorem dd_V_cellFor : ∀ (i : Nat) (q : Nat × Instr × Nat), tb_V_cellFor[i]? = some q → decode b_V_cellFor q.1 = .ok (q.2.1, q.2.2) := z_tab (by decide +kernel)
theorem d_V_cellFor_0 : decode b_V_cellFor 0 = .ok (.aload_n 0, 1) := dd_V_cellFor 0 (0, .aload_n 0, 1) rfl
theorem d_V_cellFor_1 : decode b_V_cellFor 1 = .ok (.getfield 28, 3) := dd_V_cellFor 1 (1, .getfield 28, 3) rfl
theorem d_V_cellFor_4 : decode b_V_cellFor 4 = .ok (.iload_n 1, 1) := dd_V_cellFor 2 (4, .iload_n 1, 1) rfl
theorem d_V_cellFor_5 : decode b_V_cellFor 5 = .ok (.iload_n 2, 1) := dd_V_cellFor 3 (5, .iload_n 2, 1) rfl
theorem d_V_cellFor_6 : decode b_V_cellFor 6 = .ok (.iload_n 3, 1) := dd_V_cellFor 4 (6, .iload_n 3, 1) rfl
theorem d_V_cellFor_7 : decode b_V_cellFor 7 = .ok (.iload 4, 2) := dd_V_cellFor 5 (7, .iload 4, 2) rfl
theorem d_V_cellFor_9 : decode b_V_cellFor 9 = .ok (.invokestatic 48, 3) := dd_V_cellFor 6 (9, .invokestatic 48, 3) rfl
theorem d_V_cellFor_12 : decode b_V_cellFor 12 = .ok (.iadd, 1) := dd_V_cellFor 7 (12, .iadd, 1) rfl
theorem d_V_cellFor_13 : decode b_V_cellFor 13 = .ok (.aload_n 0, 1) := dd_V_cellFor 8 (13, .aload_n 0, 1) rfl
theorem d_V_cellFor_14 : decode b_V_cellFor 14 = .ok (.getfield 7, 3) := dd_V_cellFor 9 (14, .getfield 7, 3) rfl
theorem d_V_cellFor_17 : decode b_V_cellFor 17 = .ok (.getfield 13, 3) := dd_V_cellFor 10 (17, .getfield 13, 3) rfl
theorem d_V_cellFor_20 : decode b_V_cellFor 20 = .ok (.imul, 1) := dd_V_cellFor 11 (20, .imul, 1) rfl
theorem d_V_cellFor_21 : decode b_V_cellFor 21 = .ok (.aload_n 0, 1) := dd_V_cellFor 12 (21, .aload_n 0, 1) rfl
theorem d_V_cellFor_22 : decode b_V_cellFor 22 = .ok (.getfield 25, 3) := dd_V_cellFor 13 (22, .getfield 25, 3) rfl
theorem d_V_cellFor_25 : decode b_V_cellFor 25 = .ok (.iadd, 1) := dd_V_cellFor 14 (25, .iadd, 1) rfl
theorem d_V_cellFor_26 : decode b_V_cellFor 26 = .ok (.iload_n 1, 1) := dd_V_cellFor 15 (26, .iload_n 1, 1) rfl
theorem d_V_cellFor_27 : decode b_V_cellFor 27 = .ok (.iload_n 2, 1) := dd_V_cellFor 16 (27, .iload_n 2, 1) rfl
theorem d_V_cellFor_28 : decode b_V_cellFor 28 = .ok (.iload_n 3, 1) := dd_V_cellFor 17 (28, .iload_n 3, 1) rfl
theorem d_V_cellFor_29 : decode b_V_cellFor 29 = .ok (.iload 4, 2) := dd_V_cellFor 18 (29, .iload 4, 2) rfl
theorem d_V_cellFor_31 : decode b_V_cellFor 31 = .ok (.invokestatic 51, 3) := dd_V_cellFor 19 (31, .invokestatic 51, 3) rfl
theorem d_V_cellFor_34 : decode b_V_cellFor 34 = .ok (.iadd, 1) := dd_V_cellFor 20 (34, .iadd, 1) rfl
theorem d_V_cellFor_35 : decode b_V_cellFor 35 = .ok (.ireturn, 1) := dd_V_cellFor 21 (35, .ireturn, 1) rfl
def tb_V_sourceAcross : List (Nat × Instr × Nat) := [(0, .iload_n 0, 1), (1, .iconst 1, 1), (2, .isub, 1), (3, .istore 4, 2), (5, .iload_n 1, 1), (6, .iconst 3, 1), (7, .iand, 1), (8, .istore 5, 2), (10, .iload 5, 2), (12, .ifCond .eq 9, 3), (15, .iload 5, 2), (17, .iconst 2, 1), (18, .if_icmp .ne 7, 3), (21, .iload_n 2, 1), (22, .goto 4, 3), (25, .iload_n 3, 1), (26, .istore 6, 2), (28, .iload 5, 2), (30, .iconst 2, 1), (31, .if_icmp .ge 8, 3), (34, .iload 6, 2), (36, .goto 8, 3), (39, .iload 4, 2), (41, .iload 6, 2), (43, .isub, 1), (44, .istore 7, 2), (46, .iload_n 1, 1), (47, .iconst 4, 1), (48, .if_icmp .ge 8, 3), (51, .iload 7, 2), (53, .goto 8, 3), (56, .iload 4, 2), (58, .iload 7, 2), (60, .isub, 1), (61, .ireturn, 1)]
theorem dd_V_sourceAcross : ∀ (i : Nat) (q : Nat × Instr × Nat), tb_V_sourceAcross[i]? = some q → decode b_V_sourceAcross q.1 = .ok (q.2.1, q.2.2) := z_tab (by decide +kernel)
theorem d_V_sourceAcross_0 : decode b_V_sourceAcross 0 = .ok (.iload_n 0, 1) := dd_V_sourceAcross 0 (0, .iload_n 0, 1) rfl
theorem d_V_sourceAcross_1 : decode b_V_sourceAcross 1 = .ok (.iconst 1, 1) := dd_V_sourceAcross 1 (1, .iconst 1, 1) rfl
theorem d_V_sourceAcross_2 : decode b_V_sourceAcross 2 = .ok (.isub, 1) := dd_V_sourceAcross 2 (2, .isub, 1) rfl
theorem d_V_sourceAcross_3 : decode b_V_sourceAcross 3 = .ok (.istore 4, 2) := dd_V_sourceAcross 3 (3, .istore 4, 2) rfl
theorem d_V_sourceAcross_5 : decode b_V_sourceAcross 5 = .ok (.iload_n 1, 1) := dd_V_sourceAcross 4 (5, .iload_n 1, 1) rfl
theorem d_V_sourceAcross_6 : decode b_V_sourceAcross 6 = .ok (.iconst 3, 1) := dd_V_sourceAcross 5 (6, .iconst 3, 1) rfl
theorem d_V_sourceAcross_7 : decode b_V_sourceAcross 7 = .ok (.iand, 1) := dd_V_sourceAcross 6 (7, .iand, 1) rfl
theorem d_V_sourceAcross_8 : decode b_V_sourceAcross 8 = .ok (.istore 5, 2) := dd_V_sourceAcross 7 (8, .istore 5, 2) rfl
theorem d_V_sourceAcross_10 : decode b_V_sourceAcross 10 = .ok (.iload 5, 2) := dd_V_sourceAcross 8 (10, .iload 5, 2) rfl
theorem d_V_sourceAcross_12 : decode b_V_sourceAcross 12 = .ok (.ifCond .eq 9, 3) := dd_V_sourceAcross 9 (12, .ifCond .eq 9, 3) rfl
theorem d_V_sourceAcross_15 : decode b_V_sourceAcross 15 = .ok (.iload 5, 2) := dd_V_sourceAcross 10 (15, .iload 5, 2) rfl
theorem d_V_sourceAcross_17 : decode b_V_sourceAcross 17 = .ok (.iconst 2, 1) := dd_V_sourceAcross 11 (17, .iconst 2, 1) rfl
theorem d_V_sourceAcross_18 : decode b_V_sourceAcross 18 = .ok (.if_icmp .ne 7, 3) := dd_V_sourceAcross 12 (18, .if_icmp .ne 7, 3) rfl
theorem d_V_sourceAcross_21 : decode b_V_sourceAcross 21 = .ok (.iload_n 2, 1) := dd_V_sourceAcross 13 (21, .iload_n 2, 1) rfl
theorem d_V_sourceAcross_22 : decode b_V_sourceAcross 22 = .ok (.goto 4, 3) := dd_V_sourceAcross 14 (22, .goto 4, 3) rfl
theorem d_V_sourceAcross_25 : decode b_V_sourceAcross 25 = .ok (.iload_n 3, 1) := dd_V_sourceAcross 15 (25, .iload_n 3, 1) rfl
theorem d_V_sourceAcross_26 : decode b_V_sourceAcross 26 = .ok (.istore 6, 2) := dd_V_sourceAcross 16 (26, .istore 6, 2) rfl
theorem d_V_sourceAcross_28 : decode b_V_sourceAcross 28 = .ok (.iload 5, 2) := dd_V_sourceAcross 17 (28, .iload 5, 2) rfl
theorem d_V_sourceAcross_30 : decode b_V_sourceAcross 30 = .ok (.iconst 2, 1) := dd_V_sourceAcross 18 (30, .iconst 2, 1) rfl
theorem d_V_sourceAcross_31 : decode b_V_sourceAcross 31 = .ok (.if_icmp .ge 8, 3) := dd_V_sourceAcross 19 (31, .if_icmp .ge 8, 3) rfl
theorem d_V_sourceAcross_34 : decode b_V_sourceAcross 34 = .ok (.iload 6, 2) := dd_V_sourceAcross 20 (34, .iload 6, 2) rfl
theorem d_V_sourceAcross_36 : decode b_V_sourceAcross 36 = .ok (.goto 8, 3) := dd_V_sourceAcross 21 (36, .goto 8, 3) rfl
theorem d_V_sourceAcross_39 : decode b_V_sourceAcross 39 = .ok (.iload 4, 2) := dd_V_sourceAcross 22 (39, .iload 4, 2) rfl
theorem d_V_sourceAcross_41 : decode b_V_sourceAcross 41 = .ok (.iload 6, 2) := dd_V_sourceAcross 23 (41, .iload 6, 2) rfl
theorem d_V_sourceAcross_43 : decode b_V_sourceAcross 43 = .ok (.isub, 1) := dd_V_sourceAcross 24 (43, .isub, 1) rfl
theorem d_V_sourceAcross_44 : decode b_V_sourceAcross 44 = .ok (.istore 7, 2) := dd_V_sourceAcross 25 (44, .istore 7, 2) rfl
theorem d_V_sourceAcross_46 : decode b_V_sourceAcross 46 = .ok (.iload_n 1, 1) := dd_V_sourceAcross 26 (46, .iload_n 1, 1) rfl
theorem d_V_sourceAcross_47 : decode b_V_sourceAcross 47 = .ok (.iconst 4, 1) := dd_V_sourceAcross 27 (47, .iconst 4, 1) rfl
theorem d_V_sourceAcross_48 : decode b_V_sourceAcross 48 = .ok (.if_icmp .ge 8, 3) := dd_V_sourceAcross 28 (48, .if_icmp .ge 8, 3) rfl
theorem d_V_sourceAcross_51 : decode b_V_sourceAcross 51 = .ok (.iload 7, 2) := dd_V_sourceAcross 29 (51, .iload 7, 2) rfl
theorem d_V_sourceAcross_53 : decode b_V_sourceAcross 53 = .ok (.goto 8, 3) := dd_V_sourceAcross 30 (53, .goto 8, 3) rfl
theorem d_V_sourceAcross_56 : decode b_V_sourceAcross 56 = .ok (.iload 4, 2) := dd_V_sourceAcross 31 (56, .iload 4, 2) rfl
theorem d_V_sourceAcross_58 : decode b_V_sourceAcross 58 = .ok (.iload 7, 2) := dd_V_sourceAcross 32 (58, .iload 7, 2) rfl
theorem d_V_sourceAcross_60 : decode b_V_sourceAcross 60 = .ok (.isub, 1) := dd_V_sourceAcross 33 (60, .isub, 1) rfl
theorem d_V_sourceAcross_61 : decode b_V_sourceAcross 61 = .ok (.ireturn, 1) := dd_V_sourceAcross 34 (61, .ireturn, 1) rfl
def tb_V_sourceDown : List (Nat × Instr × Nat) := [(0, .iload_n 0, 1), (1, .iconst 1, 1), (2, .isub, 1), (3, .istore 4, 2), (5, .iload_n 1, 1), (6, .iconst 3, 1), (7, .iand, 1), (8, .istore 5, 2), (10, .iload 5, 2), (12, .ifCond .eq 9, 3), (15, .iload 5, 2), (17, .iconst 2, 1), (18, .if_icmp .ne 7, 3), (21, .iload_n 3, 1), (22, .goto 4, 3), (25, .iload_n 2, 1), (26, .istore 6, 2), (28, .iload 5, 2), (30, .ifCond .eq 9, 3), (33, .iload 5, 2), (35, .iconst 3, 1), (36, .if_icmp .ne 8, 3), (39, .iload 6, 2), (41, .goto 8, 3), (44, .iload 4, 2), (46, .iload 6, 2), (48, .isub, 1), (49, .ireturn, 1)]
theorem dd_V_sourceDown : ∀ (i : Nat) (q : Nat × Instr × Nat), tb_V_sourceDown[i]? = some q → decode b_V_sourceDown q.1 = .ok (q.2.1, q.2.2) := z_tab (by decide +kernel)
theorem d_V_sourceDown_0 : decode b_V_sourceDown 0 = .ok (.iload_n 0, 1) := dd_V_sourceDown 0 (0, .iload_n 0, 1) rfl
theorem d_V_sourceDown_1 : decode b_V_sourceDown 1 = .ok (.iconst 1, 1) := dd_V_sourceDown 1 (1, .iconst 1, 1) rfl
theorem d_V_sourceDown_2 : decode b_V_sourceDown 2 = .ok (.isub, 1) := dd_V_sourceDown 2 (2, .isub, 1) rfl
theorem d_V_sourceDown_3 : decode b_V_sourceDown 3 = .ok (.istore 4, 2) := dd_V_sourceDown 3 (3, .istore 4, 2) rfl
theorem d_V_sourceDown_5 : decode b_V_sourceDown 5 = .ok (.iload_n 1, 1) := dd_V_sourceDown 4 (5, .iload_n 1, 1) rfl
theorem d_V_sourceDown_6 : decode b_V_sourceDown 6 = .ok (.iconst 3, 1) := dd_V_sourceDown 5 (6, .iconst 3, 1) rfl
theorem d_V_sourceDown_7 : decode b_V_sourceDown 7 = .ok (.iand, 1) := dd_V_sourceDown 6 (7, .iand, 1) rfl
theorem d_V_sourceDown_8 : decode b_V_sourceDown 8 = .ok (.istore 5, 2) := dd_V_sourceDown 7 (8, .istore 5, 2) rfl
theorem d_V_sourceDown_10 : decode b_V_sourceDown 10 = .ok (.iload 5, 2) := dd_V_sourceDown 8 (10, .iload 5, 2) rfl
theorem d_V_sourceDown_12 : decode b_V_sourceDown 12 = .ok (.ifCond .eq 9, 3) := dd_V_sourceDown 9 (12, .ifCond .eq 9, 3) rfl
theorem d_V_sourceDown_15 : decode b_V_sourceDown 15 = .ok (.iload 5, 2) := dd_V_sourceDown 10 (15, .iload 5, 2) rfl
theorem d_V_sourceDown_17 : decode b_V_sourceDown 17 = .ok (.iconst 2, 1) := dd_V_sourceDown 11 (17, .iconst 2, 1) rfl
theorem d_V_sourceDown_18 : decode b_V_sourceDown 18 = .ok (.if_icmp .ne 7, 3) := dd_V_sourceDown 12 (18, .if_icmp .ne 7, 3) rfl
theorem d_V_sourceDown_21 : decode b_V_sourceDown 21 = .ok (.iload_n 3, 1) := dd_V_sourceDown 13 (21, .iload_n 3, 1) rfl
theorem d_V_sourceDown_22 : decode b_V_sourceDown 22 = .ok (.goto 4, 3) := dd_V_sourceDown 14 (22, .goto 4, 3) rfl
theorem d_V_sourceDown_25 : decode b_V_sourceDown 25 = .ok (.iload_n 2, 1) := dd_V_sourceDown 15 (25, .iload_n 2, 1) rfl
theorem d_V_sourceDown_26 : decode b_V_sourceDown 26 = .ok (.istore 6, 2) := dd_V_sourceDown 16 (26, .istore 6, 2) rfl
theorem d_V_sourceDown_28 : decode b_V_sourceDown 28 = .ok (.iload 5, 2) := dd_V_sourceDown 17 (28, .iload 5, 2) rfl
theorem d_V_sourceDown_30 : decode b_V_sourceDown 30 = .ok (.ifCond .eq 9, 3) := dd_V_sourceDown 18 (30, .ifCond .eq 9, 3) rfl
theorem d_V_sourceDown_33 : decode b_V_sourceDown 33 = .ok (.iload 5, 2) := dd_V_sourceDown 19 (33, .iload 5, 2) rfl
theorem d_V_sourceDown_35 : decode b_V_sourceDown 35 = .ok (.iconst 3, 1) := dd_V_sourceDown 20 (35, .iconst 3, 1) rfl
theorem d_V_sourceDown_36 : decode b_V_sourceDown 36 = .ok (.if_icmp .ne 8, 3) := dd_V_sourceDown 21 (36, .if_icmp .ne 8, 3) rfl
theorem d_V_sourceDown_39 : decode b_V_sourceDown 39 = .ok (.iload 6, 2) := dd_V_sourceDown 22 (39, .iload 6, 2) rfl
theorem d_V_sourceDown_41 : decode b_V_sourceDown 41 = .ok (.goto 8, 3) := dd_V_sourceDown 23 (41, .goto 8, 3) rfl
theorem d_V_sourceDown_44 : decode b_V_sourceDown 44 = .ok (.iload 4, 2) := dd_V_sourceDown 24 (44, .iload 4, 2) rfl
theorem d_V_sourceDown_46 : decode b_V_sourceDown 46 = .ok (.iload 6, 2) := dd_V_sourceDown 25 (46, .iload 6, 2) rfl
theorem d_V_sourceDown_48 : decode b_V_sourceDown 48 = .ok (.isub, 1) := dd_V_sourceDown 26 (48, .isub, 1) rfl
theorem d_V_sourceDown_49 : decode b_V_sourceDown 49 = .ok (.ireturn, 1) := dd_V_sourceDown 27 (49, .ireturn, 1) rfl
def tb_V_sourceQuarter : List (Nat × Instr × Nat) := [(0, .iload_n 1, 1), (1, .invokestatic 54, 3), (4, .istore_n 2, 1), (5, .iload_n 1, 1), (6, .invokestatic 58, 3), (9, .istore_n 3, 1), (10, .iconst 2, 1), (11, .iconst 2, 1), (12, .iload_n 0, 1), (13, .iload_n 2, 1), (14, .iload_n 3, 1), (15, .invokestatic 48, 3), (18, .imul, 1), (19, .iconst 2, 1), (20, .iload_n 0, 1), (21, .iload_n 2, 1), (22, .iload_n 3, 1), (23, .invokestatic 51, 3), (26, .iadd, 1), (27, .ireturn, 1)]
theorem dd_V_sourceQuarter : ∀ (i : Nat) (q : Nat × Instr × Nat), tb_V_sourceQuarter[i]? = some q → decode b_V_sourceQuarter q.1 = .ok (q.2.1, q.2.2) := z_tab (by decide +kernel)
theorem d_V_sourceQuarter_0 : decode b_V_sourceQuarter 0 = .ok (.iload_n 1, 1) := dd_V_sourceQuarter 0 (0, .iload_n 1, 1) rfl
theorem d_V_sourceQuarter_1 : decode b_V_sourceQuarter 1 = .ok (.invokestatic 54, 3) := dd_V_sourceQuarter 1 (1, .invokestatic 54, 3) rfl
theorem d_V_sourceQuarter_4 : decode b_V_sourceQuarter 4 = .ok (.istore_n 2, 1) := dd_V_sourceQuarter 2 (4, .istore_n 2, 1) rfl
theorem d_V_sourceQuarter_5 : decode b_V_sourceQuarter 5 = .ok (.iload_n 1, 1) := dd_V_sourceQuarter 3 (5, .iload_n 1, 1) rfl
theorem d_V_sourceQuarter_6 : decode b_V_sourceQuarter 6 = .ok (.invokestatic 58, 3) := dd_V_sourceQuarter 4 (6, .invokestatic 58, 3) rfl
theorem d_V_sourceQuarter_9 : decode b_V_sourceQuarter 9 = .ok (.istore_n 3, 1) := dd_V_sourceQuarter 5 (9, .istore_n 3, 1) rfl
theorem d_V_sourceQuarter_10 : decode b_V_sourceQuarter 10 = .ok (.iconst 2, 1) := dd_V_sourceQuarter 6 (10, .iconst 2, 1) rfl
theorem d_V_sourceQuarter_11 : decode b_V_sourceQuarter 11 = .ok (.iconst 2, 1) := dd_V_sourceQuarter 7 (11, .iconst 2, 1) rfl
theorem d_V_sourceQuarter_12 : decode b_V_sourceQuarter 12 = .ok (.iload_n 0, 1) := dd_V_sourceQuarter 8 (12, .iload_n 0, 1) rfl
theorem d_V_sourceQuarter_13 : decode b_V_sourceQuarter 13 = .ok (.iload_n 2, 1) := dd_V_sourceQuarter 9 (13, .iload_n 2, 1) rfl
theorem d_V_sourceQuarter_14 : decode b_V_sourceQuarter 14 = .ok (.iload_n 3, 1) := dd_V_sourceQuarter 10 (14, .iload_n 3, 1) rfl
theorem d_V_sourceQuarter_15 : decode b_V_sourceQuarter 15 = .ok (.invokestatic 48, 3) := dd_V_sourceQuarter 11 (15, .invokestatic 48, 3) rfl
theorem d_V_sourceQuarter_18 : decode b_V_sourceQuarter 18 = .ok (.imul, 1) := dd_V_sourceQuarter 12 (18, .imul, 1) rfl
theorem d_V_sourceQuarter_19 : decode b_V_sourceQuarter 19 = .ok (.iconst 2, 1) := dd_V_sourceQuarter 13 (19, .iconst 2, 1) rfl
theorem d_V_sourceQuarter_20 : decode b_V_sourceQuarter 20 = .ok (.iload_n 0, 1) := dd_V_sourceQuarter 14 (20, .iload_n 0, 1) rfl
theorem d_V_sourceQuarter_21 : decode b_V_sourceQuarter 21 = .ok (.iload_n 2, 1) := dd_V_sourceQuarter 15 (21, .iload_n 2, 1) rfl
theorem d_V_sourceQuarter_22 : decode b_V_sourceQuarter 22 = .ok (.iload_n 3, 1) := dd_V_sourceQuarter 16 (22, .iload_n 3, 1) rfl
theorem d_V_sourceQuarter_23 : decode b_V_sourceQuarter 23 = .ok (.invokestatic 51, 3) := dd_V_sourceQuarter 17 (23, .invokestatic 51, 3) rfl
theorem d_V_sourceQuarter_26 : decode b_V_sourceQuarter 26 = .ok (.iadd, 1) := dd_V_sourceQuarter 18 (26, .iadd, 1) rfl
theorem d_V_sourceQuarter_27 : decode b_V_sourceQuarter 27 = .ok (.ireturn, 1) := dd_V_sourceQuarter 19 (27, .ireturn, 1) rfl
def tb_L_cell : List (Nat × Instr × Nat) := [(0, .iload_n 1, 1), (1, .aload_n 0, 1), (2, .arraylength, 1), (3, .if_icmp .ge 9, 3), (6, .aload_n 0, 1), (7, .iload_n 1, 1), (8, .iaload, 1), (9, .goto 4, 3), (12, .iconst 0, 1), (13, .ireturn, 1)]
theorem dd_L_cell : ∀ (i : Nat) (q : Nat × Instr × Nat), tb_L_cell[i]? = some q → decode b_L_cell q.1 = .ok (q.2.1, q.2.2) := z_tab (by decide +kernel)
theorem d_L_cell_0 : decode b_L_cell 0 = .ok (.iload_n 1, 1) := dd_L_cell 0 (0, .iload_n 1, 1) rfl
theorem d_L_cell_1 : decode b_L_cell 1 = .ok (.aload_n 0, 1) := dd_L_cell 1 (1, .aload_n 0, 1) rfl
theorem d_L_cell_2 : decode b_L_cell 2 = .ok (.arraylength, 1) := dd_L_cell 2 (2, .arraylength, 1) rfl
theorem d_L_cell_3 : decode b_L_cell 3 = .ok (.if_icmp .ge 9, 3) := dd_L_cell 3 (3, .if_icmp .ge 9, 3) rfl
theorem d_L_cell_6 : decode b_L_cell 6 = .ok (.aload_n 0, 1) := dd_L_cell 4 (6, .aload_n 0, 1) rfl
theorem d_L_cell_7 : decode b_L_cell 7 = .ok (.iload_n 1, 1) := dd_L_cell 5 (7, .iload_n 1, 1) rfl
theorem d_L_cell_8 : decode b_L_cell 8 = .ok (.iaload, 1) := dd_L_cell 6 (8, .iaload, 1) rfl
theorem d_L_cell_9 : decode b_L_cell 9 = .ok (.goto 4, 3) := dd_L_cell 7 (9, .goto 4, 3) rfl
theorem d_L_cell_12 : decode b_L_cell 12 = .ok (.iconst 0, 1) := dd_L_cell 8 (12, .iconst 0, 1) rfl
theorem d_L_cell_13 : decode b_L_cell 13 = .ok (.ireturn, 1) := dd_L_cell 9 (13, .ireturn, 1) rfl
def tb_JM_floorDiv0 : List (Nat × Instr × Nat) := [(0, .iload_n 0, 1), (1, .iload_n 1, 1), (2, .idiv, 1), (3, .istore_n 2, 1), (4, .iload_n 0, 1), (5, .iload_n 1, 1), (6, .ixor, 1), (7, .ifCond .ge 13, 3), (10, .iload_n 2, 1), (11, .iload_n 1, 1), (12, .imul, 1), (13, .iload_n 0, 1), (14, .if_icmp .eq 6, 3), (17, .iinc 2 (-1), 3), (20, .iload_n 2, 1), (21, .ireturn, 1)]
theorem dd_JM_floorDiv0 : ∀ (i : Nat) (q : Nat × Instr × Nat), tb_JM_floorDiv0[i]? = some q → decode b_JM_floorDiv0 q.1 = .ok (q.2.1, q.2.2) := z_tab (by decide +kernel)
theorem d_JM_floorDiv0_0 : decode b_JM_floorDiv0 0 = .ok (.iload_n 0, 1) := dd_JM_floorDiv0 0 (0, .iload_n 0, 1) rfl
theorem d_JM_floorDiv0_1 : decode b_JM_floorDiv0 1 = .ok (.iload_n 1, 1) := dd_JM_floorDiv0 1 (1, .iload_n 1, 1) rfl
theorem d_JM_floorDiv0_2 : decode b_JM_floorDiv0 2 = .ok (.idiv, 1) := dd_JM_floorDiv0 2 (2, .idiv, 1) rfl
theorem d_JM_floorDiv0_3 : decode b_JM_floorDiv0 3 = .ok (.istore_n 2, 1) := dd_JM_floorDiv0 3 (3, .istore_n 2, 1) rfl
theorem d_JM_floorDiv0_4 : decode b_JM_floorDiv0 4 = .ok (.iload_n 0, 1) := dd_JM_floorDiv0 4 (4, .iload_n 0, 1) rfl
theorem d_JM_floorDiv0_5 : decode b_JM_floorDiv0 5 = .ok (.iload_n 1, 1) := dd_JM_floorDiv0 5 (5, .iload_n 1, 1) rfl
theorem d_JM_floorDiv0_6 : decode b_JM_floorDiv0 6 = .ok (.ixor, 1) := dd_JM_floorDiv0 6 (6, .ixor, 1) rfl
theorem d_JM_floorDiv0_7 : decode b_JM_floorDiv0 7 = .ok (.ifCond .ge 13, 3) := dd_JM_floorDiv0 7 (7, .ifCond .ge 13, 3) rfl
theorem d_JM_floorDiv0_10 : decode b_JM_floorDiv0 10 = .ok (.iload_n 2, 1) := dd_JM_floorDiv0 8 (10, .iload_n 2, 1) rfl
theorem d_JM_floorDiv0_11 : decode b_JM_floorDiv0 11 = .ok (.iload_n 1, 1) := dd_JM_floorDiv0 9 (11, .iload_n 1, 1) rfl
theorem d_JM_floorDiv0_12 : decode b_JM_floorDiv0 12 = .ok (.imul, 1) := dd_JM_floorDiv0 10 (12, .imul, 1) rfl
theorem d_JM_floorDiv0_13 : decode b_JM_floorDiv0 13 = .ok (.iload_n 0, 1) := dd_JM_floorDiv0 11 (13, .iload_n 0, 1) rfl
theorem d_JM_floorDiv0_14 : decode b_JM_floorDiv0 14 = .ok (.if_icmp .eq 6, 3) := dd_JM_floorDiv0 12 (14, .if_icmp .eq 6, 3) rfl
theorem d_JM_floorDiv0_17 : decode b_JM_floorDiv0 17 = .ok (.iinc 2 (-1), 3) := dd_JM_floorDiv0 13 (17, .iinc 2 (-1), 3) rfl
theorem d_JM_floorDiv0_20 : decode b_JM_floorDiv0 20 = .ok (.iload_n 2, 1) := dd_JM_floorDiv0 14 (20, .iload_n 2, 1) rfl
theorem d_JM_floorDiv0_21 : decode b_JM_floorDiv0 21 = .ok (.ireturn, 1) := dd_JM_floorDiv0 15 (21, .ireturn, 1) rfl
def tb_JM_floorDiv1 : List (Nat × Instr × Nat) := [(0, .lload_n 0, 1), (1, .lload_n 2, 1), (2, .ldiv, 1), (3, .lstore 4, 2), (5, .lload_n 0, 1), (6, .lload_n 2, 1), (7, .lxor, 1), (8, .lconst 0, 1), (9, .lcmp, 1), (10, .ifCond .ge 18, 3), (13, .lload 4, 2), (15, .lload_n 2, 1), (16, .lmul, 1), (17, .lload_n 0, 1), (18, .lcmp, 1), (19, .ifCond .eq 9, 3), (22, .lload 4, 2), (24, .lconst 1, 1), (25, .lsub, 1), (26, .lstore 4, 2), (28, .lload 4, 2), (30, .lreturn, 1)]
theorem dd_JM_floorDiv1 : ∀ (i : Nat) (q : Nat × Instr × Nat), tb_JM_floorDiv1[i]? = some q → decode b_JM_floorDiv1 q.1 = .ok (q.2.1, q.2.2) := z_tab (by decide +kernel)
theorem d_JM_floorDiv1_0 : decode b_JM_floorDiv1 0 = .ok (.lload_n 0, 1) := dd_JM_floorDiv1 0 (0, .lload_n 0, 1) rfl
theorem d_JM_floorDiv1_1 : decode b_JM_floorDiv1 1 = .ok (.lload_n 2, 1) := dd_JM_floorDiv1 1 (1, .lload_n 2, 1) rfl
theorem d_JM_floorDiv1_2 : decode b_JM_floorDiv1 2 = .ok (.ldiv, 1) := dd_JM_floorDiv1 2 (2, .ldiv, 1) rfl
theorem d_JM_floorDiv1_3 : decode b_JM_floorDiv1 3 = .ok (.lstore 4, 2) := dd_JM_floorDiv1 3 (3, .lstore 4, 2) rfl
theorem d_JM_floorDiv1_5 : decode b_JM_floorDiv1 5 = .ok (.lload_n 0, 1) := dd_JM_floorDiv1 4 (5, .lload_n 0, 1) rfl
theorem d_JM_floorDiv1_6 : decode b_JM_floorDiv1 6 = .ok (.lload_n 2, 1) := dd_JM_floorDiv1 5 (6, .lload_n 2, 1) rfl
theorem d_JM_floorDiv1_7 : decode b_JM_floorDiv1 7 = .ok (.lxor, 1) := dd_JM_floorDiv1 6 (7, .lxor, 1) rfl
theorem d_JM_floorDiv1_8 : decode b_JM_floorDiv1 8 = .ok (.lconst 0, 1) := dd_JM_floorDiv1 7 (8, .lconst 0, 1) rfl
theorem d_JM_floorDiv1_9 : decode b_JM_floorDiv1 9 = .ok (.lcmp, 1) := dd_JM_floorDiv1 8 (9, .lcmp, 1) rfl
theorem d_JM_floorDiv1_10 : decode b_JM_floorDiv1 10 = .ok (.ifCond .ge 18, 3) := dd_JM_floorDiv1 9 (10, .ifCond .ge 18, 3) rfl
theorem d_JM_floorDiv1_13 : decode b_JM_floorDiv1 13 = .ok (.lload 4, 2) := dd_JM_floorDiv1 10 (13, .lload 4, 2) rfl
theorem d_JM_floorDiv1_15 : decode b_JM_floorDiv1 15 = .ok (.lload_n 2, 1) := dd_JM_floorDiv1 11 (15, .lload_n 2, 1) rfl
theorem d_JM_floorDiv1_16 : decode b_JM_floorDiv1 16 = .ok (.lmul, 1) := dd_JM_floorDiv1 12 (16, .lmul, 1) rfl
theorem d_JM_floorDiv1_17 : decode b_JM_floorDiv1 17 = .ok (.lload_n 0, 1) := dd_JM_floorDiv1 13 (17, .lload_n 0, 1) rfl
theorem d_JM_floorDiv1_18 : decode b_JM_floorDiv1 18 = .ok (.lcmp, 1) := dd_JM_floorDiv1 14 (18, .lcmp, 1) rfl
theorem d_JM_floorDiv1_19 : decode b_JM_floorDiv1 19 = .ok (.ifCond .eq 9, 3) := dd_JM_floorDiv1 15 (19, .ifCond .eq 9, 3) rfl
theorem d_JM_floorDiv1_22 : decode b_JM_floorDiv1 22 = .ok (.lload 4, 2) := dd_JM_floorDiv1 16 (22, .lload 4, 2) rfl
theorem d_JM_floorDiv1_24 : decode b_JM_floorDiv1 24 = .ok (.lconst 1, 1) := dd_JM_floorDiv1 17 (24, .lconst 1, 1) rfl
theorem d_JM_floorDiv1_25 : decode b_JM_floorDiv1 25 = .ok (.lsub, 1) := dd_JM_floorDiv1 18 (25, .lsub, 1) rfl
theorem d_JM_floorDiv1_26 : decode b_JM_floorDiv1 26 = .ok (.lstore 4, 2) := dd_JM_floorDiv1 19 (26, .lstore 4, 2) rfl
theorem d_JM_floorDiv1_28 : decode b_JM_floorDiv1 28 = .ok (.lload 4, 2) := dd_JM_floorDiv1 20 (28, .lload 4, 2) rfl
theorem d_JM_floorDiv1_30 : decode b_JM_floorDiv1 30 = .ok (.lreturn, 1) := dd_JM_floorDiv1 21 (30, .lreturn, 1) rfl
def tb_JA_fill : List (Nat × Instr × Nat) := [(0, .iconst 0, 1), (1, .istore_n 2, 1), (2, .aload_n 0, 1), (3, .arraylength, 1), (4, .istore_n 3, 1), (5, .iload_n 2, 1), (6, .iload_n 3, 1), (7, .if_icmp .ge 13, 3), (10, .aload_n 0, 1), (11, .iload_n 2, 1), (12, .iload_n 1, 1), (13, .iastore, 1), (14, .iinc 2 1, 3), (17, .goto (-12), 3), (20, .return_, 1)]
theorem dd_JA_fill : ∀ (i : Nat) (q : Nat × Instr × Nat), tb_JA_fill[i]? = some q → decode b_JA_fill q.1 = .ok (q.2.1, q.2.2) := z_tab (by decide +kernel)
theorem d_JA_fill_0 : decode b_JA_fill 0 = .ok (.iconst 0, 1) := dd_JA_fill 0 (0, .iconst 0, 1) rfl
theorem d_JA_fill_1 : decode b_JA_fill 1 = .ok (.istore_n 2, 1) := dd_JA_fill 1 (1, .istore_n 2, 1) rfl
theorem d_JA_fill_2 : decode b_JA_fill 2 = .ok (.aload_n 0, 1) := dd_JA_fill 2 (2, .aload_n 0, 1) rfl
theorem d_JA_fill_3 : decode b_JA_fill 3 = .ok (.arraylength, 1) := dd_JA_fill 3 (3, .arraylength, 1) rfl
theorem d_JA_fill_4 : decode b_JA_fill 4 = .ok (.istore_n 3, 1) := dd_JA_fill 4 (4, .istore_n 3, 1) rfl
theorem d_JA_fill_5 : decode b_JA_fill 5 = .ok (.iload_n 2, 1) := dd_JA_fill 5 (5, .iload_n 2, 1) rfl
theorem d_JA_fill_6 : decode b_JA_fill 6 = .ok (.iload_n 3, 1) := dd_JA_fill 6 (6, .iload_n 3, 1) rfl
theorem d_JA_fill_7 : decode b_JA_fill 7 = .ok (.if_icmp .ge 13, 3) := dd_JA_fill 7 (7, .if_icmp .ge 13, 3) rfl
theorem d_JA_fill_10 : decode b_JA_fill 10 = .ok (.aload_n 0, 1) := dd_JA_fill 8 (10, .aload_n 0, 1) rfl
theorem d_JA_fill_11 : decode b_JA_fill 11 = .ok (.iload_n 2, 1) := dd_JA_fill 9 (11, .iload_n 2, 1) rfl
theorem d_JA_fill_12 : decode b_JA_fill 12 = .ok (.iload_n 1, 1) := dd_JA_fill 10 (12, .iload_n 1, 1) rfl
theorem d_JA_fill_13 : decode b_JA_fill 13 = .ok (.iastore, 1) := dd_JA_fill 11 (13, .iastore, 1) rfl
theorem d_JA_fill_14 : decode b_JA_fill 14 = .ok (.iinc 2 1, 3) := dd_JA_fill 12 (14, .iinc 2 1, 3) rfl
theorem d_JA_fill_17 : decode b_JA_fill 17 = .ok (.goto (-12), 3) := dd_JA_fill 13 (17, .goto (-12), 3) rfl
theorem d_JA_fill_20 : decode b_JA_fill 20 = .ok (.return_, 1) := dd_JA_fill 14 (20, .return_, 1) rfl
