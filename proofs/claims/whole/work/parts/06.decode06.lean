def tb_G_becomeHalfOf : List (Nat × Instr × Nat) := [(0, .aload_n 0, 1), (1, .aload_n 1, 1), (2, .getfield 24, 3), (5, .iconst 2, 1), (6, .idiv, 1), (7, .aload_n 0, 1), (8, .getfield 18, 3), (11, .invokestatic 9, 3), (14, .putfield 24, 3), (17, .iconst 0, 1), (18, .istore_n 2, 1), (19, .iload_n 2, 1), (20, .aload_n 0, 1), (21, .getfield 24, 3), (24, .if_icmp .ge 46, 3), (27, .iconst 0, 1), (28, .istore_n 3, 1), (29, .iload_n 3, 1), (30, .aload_n 0, 1), (31, .getfield 24, 3), (34, .if_icmp .ge 30, 3), (37, .aload_n 0, 1), (38, .iload_n 3, 1), (39, .iload_n 2, 1), (40, .aload_n 1, 1), (41, .iconst 2, 1), (42, .iload_n 3, 1), (43, .imul, 1), (44, .iconst 2, 1), (45, .iload_n 2, 1), (46, .imul, 1), (47, .iconst 2, 1), (48, .invokevirtual 41, 3), (51, .iconst 2, 1), (52, .iadd, 1), (53, .iconst 4, 1), (54, .idiv, 1), (55, .invokevirtual 45, 3), (58, .iinc 3 1, 3), (61, .goto (-32), 3), (64, .iinc 2 1, 3), (67, .goto (-48), 3), (70, .return_, 1)]
theorem dd_G_becomeHalfOf : ∀ (i : Nat) (q : Nat × Instr × Nat), tb_G_becomeHalfOf[i]? = some q → decode b_G_becomeHalfOf q.1 = .ok (q.2.1, q.2.2) := z_tab (by decide +kernel)
theorem d_G_becomeHalfOf_0 : decode b_G_becomeHalfOf 0 = .ok (.aload_n 0, 1) := dd_G_becomeHalfOf 0 (0, .aload_n 0, 1) rfl
theorem d_G_becomeHalfOf_1 : decode b_G_becomeHalfOf 1 = .ok (.aload_n 1, 1) := dd_G_becomeHalfOf 1 (1, .aload_n 1, 1) rfl
theorem d_G_becomeHalfOf_2 : decode b_G_becomeHalfOf 2 = .ok (.getfield 24, 3) := dd_G_becomeHalfOf 2 (2, .getfield 24, 3) rfl
theorem d_G_becomeHalfOf_5 : decode b_G_becomeHalfOf 5 = .ok (.iconst 2, 1) := dd_G_becomeHalfOf 3 (5, .iconst 2, 1) rfl
theorem d_G_becomeHalfOf_6 : decode b_G_becomeHalfOf 6 = .ok (.idiv, 1) := dd_G_becomeHalfOf 4 (6, .idiv, 1) rfl
theorem d_G_becomeHalfOf_7 : decode b_G_becomeHalfOf 7 = .ok (.aload_n 0, 1) := dd_G_becomeHalfOf 5 (7, .aload_n 0, 1) rfl
theorem d_G_becomeHalfOf_8 : decode b_G_becomeHalfOf 8 = .ok (.getfield 18, 3) := dd_G_becomeHalfOf 6 (8, .getfield 18, 3) rfl
theorem d_G_becomeHalfOf_11 : decode b_G_becomeHalfOf 11 = .ok (.invokestatic 9, 3) := dd_G_becomeHalfOf 7 (11, .invokestatic 9, 3) rfl
theorem d_G_becomeHalfOf_14 : decode b_G_becomeHalfOf 14 = .ok (.putfield 24, 3) := dd_G_becomeHalfOf 8 (14, .putfield 24, 3) rfl
theorem d_G_becomeHalfOf_17 : decode b_G_becomeHalfOf 17 = .ok (.iconst 0, 1) := dd_G_becomeHalfOf 9 (17, .iconst 0, 1) rfl
theorem d_G_becomeHalfOf_18 : decode b_G_becomeHalfOf 18 = .ok (.istore_n 2, 1) := dd_G_becomeHalfOf 10 (18, .istore_n 2, 1) rfl
theorem d_G_becomeHalfOf_19 : decode b_G_becomeHalfOf 19 = .ok (.iload_n 2, 1) := dd_G_becomeHalfOf 11 (19, .iload_n 2, 1) rfl
theorem d_G_becomeHalfOf_20 : decode b_G_becomeHalfOf 20 = .ok (.aload_n 0, 1) := dd_G_becomeHalfOf 12 (20, .aload_n 0, 1) rfl
theorem d_G_becomeHalfOf_21 : decode b_G_becomeHalfOf 21 = .ok (.getfield 24, 3) := dd_G_becomeHalfOf 13 (21, .getfield 24, 3) rfl
theorem d_G_becomeHalfOf_24 : decode b_G_becomeHalfOf 24 = .ok (.if_icmp .ge 46, 3) := dd_G_becomeHalfOf 14 (24, .if_icmp .ge 46, 3) rfl
theorem d_G_becomeHalfOf_27 : decode b_G_becomeHalfOf 27 = .ok (.iconst 0, 1) := dd_G_becomeHalfOf 15 (27, .iconst 0, 1) rfl
theorem d_G_becomeHalfOf_28 : decode b_G_becomeHalfOf 28 = .ok (.istore_n 3, 1) := dd_G_becomeHalfOf 16 (28, .istore_n 3, 1) rfl
theorem d_G_becomeHalfOf_29 : decode b_G_becomeHalfOf 29 = .ok (.iload_n 3, 1) := dd_G_becomeHalfOf 17 (29, .iload_n 3, 1) rfl
theorem d_G_becomeHalfOf_30 : decode b_G_becomeHalfOf 30 = .ok (.aload_n 0, 1) := dd_G_becomeHalfOf 18 (30, .aload_n 0, 1) rfl
theorem d_G_becomeHalfOf_31 : decode b_G_becomeHalfOf 31 = .ok (.getfield 24, 3) := dd_G_becomeHalfOf 19 (31, .getfield 24, 3) rfl
theorem d_G_becomeHalfOf_34 : decode b_G_becomeHalfOf 34 = .ok (.if_icmp .ge 30, 3) := dd_G_becomeHalfOf 20 (34, .if_icmp .ge 30, 3) rfl
theorem d_G_becomeHalfOf_37 : decode b_G_becomeHalfOf 37 = .ok (.aload_n 0, 1) := dd_G_becomeHalfOf 21 (37, .aload_n 0, 1) rfl
theorem d_G_becomeHalfOf_38 : decode b_G_becomeHalfOf 38 = .ok (.iload_n 3, 1) := dd_G_becomeHalfOf 22 (38, .iload_n 3, 1) rfl
theorem d_G_becomeHalfOf_39 : decode b_G_becomeHalfOf 39 = .ok (.iload_n 2, 1) := dd_G_becomeHalfOf 23 (39, .iload_n 2, 1) rfl
theorem d_G_becomeHalfOf_40 : decode b_G_becomeHalfOf 40 = .ok (.aload_n 1, 1) := dd_G_becomeHalfOf 24 (40, .aload_n 1, 1) rfl
theorem d_G_becomeHalfOf_41 : decode b_G_becomeHalfOf 41 = .ok (.iconst 2, 1) := dd_G_becomeHalfOf 25 (41, .iconst 2, 1) rfl
theorem d_G_becomeHalfOf_42 : decode b_G_becomeHalfOf 42 = .ok (.iload_n 3, 1) := dd_G_becomeHalfOf 26 (42, .iload_n 3, 1) rfl
theorem d_G_becomeHalfOf_43 : decode b_G_becomeHalfOf 43 = .ok (.imul, 1) := dd_G_becomeHalfOf 27 (43, .imul, 1) rfl
theorem d_G_becomeHalfOf_44 : decode b_G_becomeHalfOf 44 = .ok (.iconst 2, 1) := dd_G_becomeHalfOf 28 (44, .iconst 2, 1) rfl
theorem d_G_becomeHalfOf_45 : decode b_G_becomeHalfOf 45 = .ok (.iload_n 2, 1) := dd_G_becomeHalfOf 29 (45, .iload_n 2, 1) rfl
theorem d_G_becomeHalfOf_46 : decode b_G_becomeHalfOf 46 = .ok (.imul, 1) := dd_G_becomeHalfOf 30 (46, .imul, 1) rfl
theorem d_G_becomeHalfOf_47 : decode b_G_becomeHalfOf 47 = .ok (.iconst 2, 1) := dd_G_becomeHalfOf 31 (47, .iconst 2, 1) rfl
theorem d_G_becomeHalfOf_48 : decode b_G_becomeHalfOf 48 = .ok (.invokevirtual 41, 3) := dd_G_becomeHalfOf 32 (48, .invokevirtual 41, 3) rfl
theorem d_G_becomeHalfOf_51 : decode b_G_becomeHalfOf 51 = .ok (.iconst 2, 1) := dd_G_becomeHalfOf 33 (51, .iconst 2, 1) rfl
theorem d_G_becomeHalfOf_52 : decode b_G_becomeHalfOf 52 = .ok (.iadd, 1) := dd_G_becomeHalfOf 34 (52, .iadd, 1) rfl
theorem d_G_becomeHalfOf_53 : decode b_G_becomeHalfOf 53 = .ok (.iconst 4, 1) := dd_G_becomeHalfOf 35 (53, .iconst 4, 1) rfl
theorem d_G_becomeHalfOf_54 : decode b_G_becomeHalfOf 54 = .ok (.idiv, 1) := dd_G_becomeHalfOf 36 (54, .idiv, 1) rfl
theorem d_G_becomeHalfOf_55 : decode b_G_becomeHalfOf 55 = .ok (.invokevirtual 45, 3) := dd_G_becomeHalfOf 37 (55, .invokevirtual 45, 3) rfl
theorem d_G_becomeHalfOf_58 : decode b_G_becomeHalfOf 58 = .ok (.iinc 3 1, 3) := dd_G_becomeHalfOf 38 (58, .iinc 3 1, 3) rfl
theorem d_G_becomeHalfOf_61 : decode b_G_becomeHalfOf 61 = .ok (.goto (-32), 3) := dd_G_becomeHalfOf 39 (61, .goto (-32), 3) rfl
theorem d_G_becomeHalfOf_64 : decode b_G_becomeHalfOf 64 = .ok (.iinc 2 1, 3) := dd_G_becomeHalfOf 40 (64, .iinc 2 1, 3) rfl
theorem d_G_becomeHalfOf_67 : decode b_G_becomeHalfOf 67 = .ok (.goto (-48), 3) := dd_G_becomeHalfOf 41 (67, .goto (-48), 3) rfl
theorem d_G_becomeHalfOf_70 : decode b_G_becomeHalfOf 70 = .ok (.return_, 1) := dd_G_becomeHalfOf 42 (70, .return_, 1) rfl
def tb_G_sum : List (Nat × Instr × Nat) := [(0, .iconst 0, 1), (1, .istore 4, 2), (3, .iconst 0, 1), (4, .istore 5, 2), (6, .iload 5, 2), (8, .iload_n 3, 1), (9, .if_icmp .ge 41, 3), (12, .iconst 0, 1), (13, .istore 6, 2), (15, .iload 6, 2), (17, .iload_n 3, 1), (18, .if_icmp .ge 26, 3), (21, .iload 4, 2), (23, .aload_n 0, 1), (24, .iload_n 1, 1), (25, .iload 6, 2), (27, .iadd, 1), (28, .iload_n 2, 1), (29, .iload 5, 2), (31, .iadd, 1), (32, .invokevirtual 49, 3), (35, .iadd, 1), (36, .istore 4, 2), (38, .iinc 6 1, 3), (41, .goto (-26), 3), (44, .iinc 5 1, 3), (47, .goto (-41), 3), (50, .iload 4, 2), (52, .ireturn, 1)]
theorem dd_G_sum : ∀ (i : Nat) (q : Nat × Instr × Nat), tb_G_sum[i]? = some q → decode b_G_sum q.1 = .ok (q.2.1, q.2.2) := z_tab (by decide +kernel)
theorem d_G_sum_0 : decode b_G_sum 0 = .ok (.iconst 0, 1) := dd_G_sum 0 (0, .iconst 0, 1) rfl
theorem d_G_sum_1 : decode b_G_sum 1 = .ok (.istore 4, 2) := dd_G_sum 1 (1, .istore 4, 2) rfl
theorem d_G_sum_3 : decode b_G_sum 3 = .ok (.iconst 0, 1) := dd_G_sum 2 (3, .iconst 0, 1) rfl
theorem d_G_sum_4 : decode b_G_sum 4 = .ok (.istore 5, 2) := dd_G_sum 3 (4, .istore 5, 2) rfl
theorem d_G_sum_6 : decode b_G_sum 6 = .ok (.iload 5, 2) := dd_G_sum 4 (6, .iload 5, 2) rfl
theorem d_G_sum_8 : decode b_G_sum 8 = .ok (.iload_n 3, 1) := dd_G_sum 5 (8, .iload_n 3, 1) rfl
theorem d_G_sum_9 : decode b_G_sum 9 = .ok (.if_icmp .ge 41, 3) := dd_G_sum 6 (9, .if_icmp .ge 41, 3) rfl
theorem d_G_sum_12 : decode b_G_sum 12 = .ok (.iconst 0, 1) := dd_G_sum 7 (12, .iconst 0, 1) rfl
theorem d_G_sum_13 : decode b_G_sum 13 = .ok (.istore 6, 2) := dd_G_sum 8 (13, .istore 6, 2) rfl
theorem d_G_sum_15 : decode b_G_sum 15 = .ok (.iload 6, 2) := dd_G_sum 9 (15, .iload 6, 2) rfl
theorem d_G_sum_17 : decode b_G_sum 17 = .ok (.iload_n 3, 1) := dd_G_sum 10 (17, .iload_n 3, 1) rfl
theorem d_G_sum_18 : decode b_G_sum 18 = .ok (.if_icmp .ge 26, 3) := dd_G_sum 11 (18, .if_icmp .ge 26, 3) rfl
theorem d_G_sum_21 : decode b_G_sum 21 = .ok (.iload 4, 2) := dd_G_sum 12 (21, .iload 4, 2) rfl
theorem d_G_sum_23 : decode b_G_sum 23 = .ok (.aload_n 0, 1) := dd_G_sum 13 (23, .aload_n 0, 1) rfl
theorem d_G_sum_24 : decode b_G_sum 24 = .ok (.iload_n 1, 1) := dd_G_sum 14 (24, .iload_n 1, 1) rfl
theorem d_G_sum_25 : decode b_G_sum 25 = .ok (.iload 6, 2) := dd_G_sum 15 (25, .iload 6, 2) rfl
theorem d_G_sum_27 : decode b_G_sum 27 = .ok (.iadd, 1) := dd_G_sum 16 (27, .iadd, 1) rfl
theorem d_G_sum_28 : decode b_G_sum 28 = .ok (.iload_n 2, 1) := dd_G_sum 17 (28, .iload_n 2, 1) rfl
theorem d_G_sum_29 : decode b_G_sum 29 = .ok (.iload 5, 2) := dd_G_sum 18 (29, .iload 5, 2) rfl
theorem d_G_sum_31 : decode b_G_sum 31 = .ok (.iadd, 1) := dd_G_sum 19 (31, .iadd, 1) rfl
theorem d_G_sum_32 : decode b_G_sum 32 = .ok (.invokevirtual 49, 3) := dd_G_sum 20 (32, .invokevirtual 49, 3) rfl
theorem d_G_sum_35 : decode b_G_sum 35 = .ok (.iadd, 1) := dd_G_sum 21 (35, .iadd, 1) rfl
theorem d_G_sum_36 : decode b_G_sum 36 = .ok (.istore 4, 2) := dd_G_sum 22 (36, .istore 4, 2) rfl
theorem d_G_sum_38 : decode b_G_sum 38 = .ok (.iinc 6 1, 3) := dd_G_sum 23 (38, .iinc 6 1, 3) rfl
theorem d_G_sum_41 : decode b_G_sum 41 = .ok (.goto (-26), 3) := dd_G_sum 24 (41, .goto (-26), 3) rfl
theorem d_G_sum_44 : decode b_G_sum 44 = .ok (.iinc 5 1, 3) := dd_G_sum 25 (44, .iinc 5 1, 3) rfl
theorem d_G_sum_47 : decode b_G_sum 47 = .ok (.goto (-41), 3) := dd_G_sum 26 (47, .goto (-41), 3) rfl
theorem d_G_sum_50 : decode b_G_sum 50 = .ok (.iload 4, 2) := dd_G_sum 27 (50, .iload 4, 2) rfl
theorem d_G_sum_52 : decode b_G_sum 52 = .ok (.ireturn, 1) := dd_G_sum 28 (52, .ireturn, 1) rfl
def tb_G_brightestQuarter : List (Nat × Instr × Nat) := [(0, .iload_n 3, 1), (1, .iconst 2, 1), (2, .idiv, 1), (3, .istore 4, 2), (5, .iconst 0, 1), (6, .istore 5, 2), (8, .iconst (-1), 1), (9, .istore 6, 2), (11, .iconst 0, 1), (12, .istore 7, 2), (14, .iload 7, 2), (16, .iconst 4, 1), (17, .if_icmp .ge 52, 3), (20, .aload_n 0, 1), (21, .iload_n 1, 1), (22, .iload 7, 2), (24, .invokestatic 52, 3), (27, .iload 4, 2), (29, .imul, 1), (30, .iadd, 1), (31, .iload_n 2, 1), (32, .iload 7, 2), (34, .invokestatic 56, 3), (37, .iload 4, 2), (39, .imul, 1), (40, .iadd, 1), (41, .iload 4, 2), (43, .invokevirtual 41, 3), (46, .istore 8, 2), (48, .iload 8, 2), (50, .iload 6, 2), (52, .if_icmp .le 11, 3), (55, .iload 8, 2), (57, .istore 6, 2), (59, .iload 7, 2), (61, .istore 5, 2), (63, .iinc 7 1, 3), (66, .goto (-52), 3), (69, .iload 5, 2), (71, .ireturn, 1)]
theorem dd_G_brightestQuarter : ∀ (i : Nat) (q : Nat × Instr × Nat), tb_G_brightestQuarter[i]? = some q → decode b_G_brightestQuarter q.1 = .ok (q.2.1, q.2.2) := z_tab (by decide +kernel)
theorem d_G_brightestQuarter_0 : decode b_G_brightestQuarter 0 = .ok (.iload_n 3, 1) := dd_G_brightestQuarter 0 (0, .iload_n 3, 1) rfl
theorem d_G_brightestQuarter_1 : decode b_G_brightestQuarter 1 = .ok (.iconst 2, 1) := dd_G_brightestQuarter 1 (1, .iconst 2, 1) rfl
theorem d_G_brightestQuarter_2 : decode b_G_brightestQuarter 2 = .ok (.idiv, 1) := dd_G_brightestQuarter 2 (2, .idiv, 1) rfl
theorem d_G_brightestQuarter_3 : decode b_G_brightestQuarter 3 = .ok (.istore 4, 2) := dd_G_brightestQuarter 3 (3, .istore 4, 2) rfl
theorem d_G_brightestQuarter_5 : decode b_G_brightestQuarter 5 = .ok (.iconst 0, 1) := dd_G_brightestQuarter 4 (5, .iconst 0, 1) rfl
theorem d_G_brightestQuarter_6 : decode b_G_brightestQuarter 6 = .ok (.istore 5, 2) := dd_G_brightestQuarter 5 (6, .istore 5, 2) rfl
theorem d_G_brightestQuarter_8 : decode b_G_brightestQuarter 8 = .ok (.iconst (-1), 1) := dd_G_brightestQuarter 6 (8, .iconst (-1), 1) rfl
theorem d_G_brightestQuarter_9 : decode b_G_brightestQuarter 9 = .ok (.istore 6, 2) := dd_G_brightestQuarter 7 (9, .istore 6, 2) rfl
theorem d_G_brightestQuarter_11 : decode b_G_brightestQuarter 11 = .ok (.iconst 0, 1) := dd_G_brightestQuarter 8 (11, .iconst 0, 1) rfl
theorem d_G_brightestQuarter_12 : decode b_G_brightestQuarter 12 = .ok (.istore 7, 2) := dd_G_brightestQuarter 9 (12, .istore 7, 2) rfl
theorem d_G_brightestQuarter_14 : decode b_G_brightestQuarter 14 = .ok (.iload 7, 2) := dd_G_brightestQuarter 10 (14, .iload 7, 2) rfl
theorem d_G_brightestQuarter_16 : decode b_G_brightestQuarter 16 = .ok (.iconst 4, 1) := dd_G_brightestQuarter 11 (16, .iconst 4, 1) rfl
theorem d_G_brightestQuarter_17 : decode b_G_brightestQuarter 17 = .ok (.if_icmp .ge 52, 3) := dd_G_brightestQuarter 12 (17, .if_icmp .ge 52, 3) rfl
theorem d_G_brightestQuarter_20 : decode b_G_brightestQuarter 20 = .ok (.aload_n 0, 1) := dd_G_brightestQuarter 13 (20, .aload_n 0, 1) rfl
theorem d_G_brightestQuarter_21 : decode b_G_brightestQuarter 21 = .ok (.iload_n 1, 1) := dd_G_brightestQuarter 14 (21, .iload_n 1, 1) rfl
theorem d_G_brightestQuarter_22 : decode b_G_brightestQuarter 22 = .ok (.iload 7, 2) := dd_G_brightestQuarter 15 (22, .iload 7, 2) rfl
theorem d_G_brightestQuarter_24 : decode b_G_brightestQuarter 24 = .ok (.invokestatic 52, 3) := dd_G_brightestQuarter 16 (24, .invokestatic 52, 3) rfl
theorem d_G_brightestQuarter_27 : decode b_G_brightestQuarter 27 = .ok (.iload 4, 2) := dd_G_brightestQuarter 17 (27, .iload 4, 2) rfl
theorem d_G_brightestQuarter_29 : decode b_G_brightestQuarter 29 = .ok (.imul, 1) := dd_G_brightestQuarter 18 (29, .imul, 1) rfl
theorem d_G_brightestQuarter_30 : decode b_G_brightestQuarter 30 = .ok (.iadd, 1) := dd_G_brightestQuarter 19 (30, .iadd, 1) rfl
theorem d_G_brightestQuarter_31 : decode b_G_brightestQuarter 31 = .ok (.iload_n 2, 1) := dd_G_brightestQuarter 20 (31, .iload_n 2, 1) rfl
theorem d_G_brightestQuarter_32 : decode b_G_brightestQuarter 32 = .ok (.iload 7, 2) := dd_G_brightestQuarter 21 (32, .iload 7, 2) rfl
theorem d_G_brightestQuarter_34 : decode b_G_brightestQuarter 34 = .ok (.invokestatic 56, 3) := dd_G_brightestQuarter 22 (34, .invokestatic 56, 3) rfl
theorem d_G_brightestQuarter_37 : decode b_G_brightestQuarter 37 = .ok (.iload 4, 2) := dd_G_brightestQuarter 23 (37, .iload 4, 2) rfl
theorem d_G_brightestQuarter_39 : decode b_G_brightestQuarter 39 = .ok (.imul, 1) := dd_G_brightestQuarter 24 (39, .imul, 1) rfl
theorem d_G_brightestQuarter_40 : decode b_G_brightestQuarter 40 = .ok (.iadd, 1) := dd_G_brightestQuarter 25 (40, .iadd, 1) rfl
theorem d_G_brightestQuarter_41 : decode b_G_brightestQuarter 41 = .ok (.iload 4, 2) := dd_G_brightestQuarter 26 (41, .iload 4, 2) rfl
theorem d_G_brightestQuarter_43 : decode b_G_brightestQuarter 43 = .ok (.invokevirtual 41, 3) := dd_G_brightestQuarter 27 (43, .invokevirtual 41, 3) rfl
theorem d_G_brightestQuarter_46 : decode b_G_brightestQuarter 46 = .ok (.istore 8, 2) := dd_G_brightestQuarter 28 (46, .istore 8, 2) rfl
theorem d_G_brightestQuarter_48 : decode b_G_brightestQuarter 48 = .ok (.iload 8, 2) := dd_G_brightestQuarter 29 (48, .iload 8, 2) rfl
theorem d_G_brightestQuarter_50 : decode b_G_brightestQuarter 50 = .ok (.iload 6, 2) := dd_G_brightestQuarter 30 (50, .iload 6, 2) rfl
theorem d_G_brightestQuarter_52 : decode b_G_brightestQuarter 52 = .ok (.if_icmp .le 11, 3) := dd_G_brightestQuarter 31 (52, .if_icmp .le 11, 3) rfl
theorem d_G_brightestQuarter_55 : decode b_G_brightestQuarter 55 = .ok (.iload 8, 2) := dd_G_brightestQuarter 32 (55, .iload 8, 2) rfl
theorem d_G_brightestQuarter_57 : decode b_G_brightestQuarter 57 = .ok (.istore 6, 2) := dd_G_brightestQuarter 33 (57, .istore 6, 2) rfl
theorem d_G_brightestQuarter_59 : decode b_G_brightestQuarter 59 = .ok (.iload 7, 2) := dd_G_brightestQuarter 34 (59, .iload 7, 2) rfl
theorem d_G_brightestQuarter_61 : decode b_G_brightestQuarter 61 = .ok (.istore 5, 2) := dd_G_brightestQuarter 35 (61, .istore 5, 2) rfl
theorem d_G_brightestQuarter_63 : decode b_G_brightestQuarter 63 = .ok (.iinc 7 1, 3) := dd_G_brightestQuarter 36 (63, .iinc 7 1, 3) rfl
theorem d_G_brightestQuarter_66 : decode b_G_brightestQuarter 66 = .ok (.goto (-52), 3) := dd_G_brightestQuarter 37 (66, .goto (-52), 3) rfl
theorem d_G_brightestQuarter_69 : decode b_G_brightestQuarter 69 = .ok (.iload 5, 2) := dd_G_brightestQuarter 38 (69, .iload 5, 2) rfl
theorem d_G_brightestQuarter_71 : decode b_G_brightestQuarter 71 = .ok (.ireturn, 1) := dd_G_brightestQuarter 39 (71, .ireturn, 1) rfl
def tb_S_init : List (Nat × Instr × Nat) := [(0, .aload_n 0, 1), (1, .invokespecial 3, 3), (4, .aload_n 0, 1), (5, .aload_n 1, 1), (6, .putfield 9, 3), (9, .aload_n 0, 1), (10, .aload_n 2, 1), (11, .putfield 15, 3), (14, .aload_n 0, 1), (15, .aload_n 3, 1), (16, .putfield 18, 3), (19, .aload_n 1, 1), (20, .getfield 22, 3), (23, .arraylength, 1), (24, .iconst 4, 1), (25, .idiv, 1), (26, .istore 4, 2), (28, .aload_n 0, 1), (29, .iload 4, 2), (31, .newarray .int, 2), (33, .putfield 28, 3), (36, .aload_n 0, 1), (37, .iload 4, 2), (39, .newarray .int, 2), (41, .putfield 31, 3), (44, .aload_n 0, 1), (45, .iconst 4, 1), (46, .newarray .int, 2), (48, .putfield 34, 3), (51, .aload_n 0, 1), (52, .bipush 8, 2), (54, .newarray .int, 2), (56, .putfield 37, 3), (59, .aload_n 0, 1), (60, .new 40, 3), (63, .dup, 1), (64, .invokespecial 42, 3), (67, .putfield 43, 3), (70, .return_, 1)]
theorem dd_S_init : ∀ (i : Nat) (q : Nat × Instr × Nat), tb_S_init[i]? = some q → decode b_S_init q.1 = .ok (q.2.1, q.2.2) := z_tab (by decide +kernel)
theorem d_S_init_0 : decode b_S_init 0 = .ok (.aload_n 0, 1) := dd_S_init 0 (0, .aload_n 0, 1) rfl
theorem d_S_init_1 : decode b_S_init 1 = .ok (.invokespecial 3, 3) := dd_S_init 1 (1, .invokespecial 3, 3) rfl
theorem d_S_init_4 : decode b_S_init 4 = .ok (.aload_n 0, 1) := dd_S_init 2 (4, .aload_n 0, 1) rfl
theorem d_S_init_5 : decode b_S_init 5 = .ok (.aload_n 1, 1) := dd_S_init 3 (5, .aload_n 1, 1) rfl
theorem d_S_init_6 : decode b_S_init 6 = .ok (.putfield 9, 3) := dd_S_init 4 (6, .putfield 9, 3) rfl
theorem d_S_init_9 : decode b_S_init 9 = .ok (.aload_n 0, 1) := dd_S_init 5 (9, .aload_n 0, 1) rfl
theorem d_S_init_10 : decode b_S_init 10 = .ok (.aload_n 2, 1) := dd_S_init 6 (10, .aload_n 2, 1) rfl
theorem d_S_init_11 : decode b_S_init 11 = .ok (.putfield 15, 3) := dd_S_init 7 (11, .putfield 15, 3) rfl
theorem d_S_init_14 : decode b_S_init 14 = .ok (.aload_n 0, 1) := dd_S_init 8 (14, .aload_n 0, 1) rfl
theorem d_S_init_15 : decode b_S_init 15 = .ok (.aload_n 3, 1) := dd_S_init 9 (15, .aload_n 3, 1) rfl
theorem d_S_init_16 : decode b_S_init 16 = .ok (.putfield 18, 3) := dd_S_init 10 (16, .putfield 18, 3) rfl
theorem d_S_init_19 : decode b_S_init 19 = .ok (.aload_n 1, 1) := dd_S_init 11 (19, .aload_n 1, 1) rfl
theorem d_S_init_20 : decode b_S_init 20 = .ok (.getfield 22, 3) := dd_S_init 12 (20, .getfield 22, 3) rfl
theorem d_S_init_23 : decode b_S_init 23 = .ok (.arraylength, 1) := dd_S_init 13 (23, .arraylength, 1) rfl
theorem d_S_init_24 : decode b_S_init 24 = .ok (.iconst 4, 1) := dd_S_init 14 (24, .iconst 4, 1) rfl
theorem d_S_init_25 : decode b_S_init 25 = .ok (.idiv, 1) := dd_S_init 15 (25, .idiv, 1) rfl
theorem d_S_init_26 : decode b_S_init 26 = .ok (.istore 4, 2) := dd_S_init 16 (26, .istore 4, 2) rfl
theorem d_S_init_28 : decode b_S_init 28 = .ok (.aload_n 0, 1) := dd_S_init 17 (28, .aload_n 0, 1) rfl
theorem d_S_init_29 : decode b_S_init 29 = .ok (.iload 4, 2) := dd_S_init 18 (29, .iload 4, 2) rfl
theorem d_S_init_31 : decode b_S_init 31 = .ok (.newarray .int, 2) := dd_S_init 19 (31, .newarray .int, 2) rfl
theorem d_S_init_33 : decode b_S_init 33 = .ok (.putfield 28, 3) := dd_S_init 20 (33, .putfield 28, 3) rfl
theorem d_S_init_36 : decode b_S_init 36 = .ok (.aload_n 0, 1) := dd_S_init 21 (36, .aload_n 0, 1) rfl
theorem d_S_init_37 : decode b_S_init 37 = .ok (.iload 4, 2) := dd_S_init 22 (37, .iload 4, 2) rfl
theorem d_S_init_39 : decode b_S_init 39 = .ok (.newarray .int, 2) := dd_S_init 23 (39, .newarray .int, 2) rfl
theorem d_S_init_41 : decode b_S_init 41 = .ok (.putfield 31, 3) := dd_S_init 24 (41, .putfield 31, 3) rfl
theorem d_S_init_44 : decode b_S_init 44 = .ok (.aload_n 0, 1) := dd_S_init 25 (44, .aload_n 0, 1) rfl
theorem d_S_init_45 : decode b_S_init 45 = .ok (.iconst 4, 1) := dd_S_init 26 (45, .iconst 4, 1) rfl
theorem d_S_init_46 : decode b_S_init 46 = .ok (.newarray .int, 2) := dd_S_init 27 (46, .newarray .int, 2) rfl
theorem d_S_init_48 : decode b_S_init 48 = .ok (.putfield 34, 3) := dd_S_init 28 (48, .putfield 34, 3) rfl
theorem d_S_init_51 : decode b_S_init 51 = .ok (.aload_n 0, 1) := dd_S_init 29 (51, .aload_n 0, 1) rfl
theorem d_S_init_52 : decode b_S_init 52 = .ok (.bipush 8, 2) := dd_S_init 30 (52, .bipush 8, 2) rfl
theorem d_S_init_54 : decode b_S_init 54 = .ok (.newarray .int, 2) := dd_S_init 31 (54, .newarray .int, 2) rfl
theorem d_S_init_56 : decode b_S_init 56 = .ok (.putfield 37, 3) := dd_S_init 32 (56, .putfield 37, 3) rfl
theorem d_S_init_59 : decode b_S_init 59 = .ok (.aload_n 0, 1) := dd_S_init 33 (59, .aload_n 0, 1) rfl
theorem d_S_init_60 : decode b_S_init 60 = .ok (.new 40, 3) := dd_S_init 34 (60, .new 40, 3) rfl
theorem d_S_init_63 : decode b_S_init 63 = .ok (.dup, 1) := dd_S_init 35 (63, .dup, 1) rfl
theorem d_S_init_64 : decode b_S_init 64 = .ok (.invokespecial 42, 3) := dd_S_init 36 (64, .invokespecial 42, 3) rfl
theorem d_S_init_67 : decode b_S_init 67 = .ok (.putfield 43, 3) := dd_S_init 37 (67, .putfield 43, 3) rfl
theorem d_S_init_70 : decode b_S_init 70 = .ok (.return_, 1) := dd_S_init 38 (70, .return_, 1) rfl
def tb_S_start : List (Nat × Instr × Nat) := [(0, .aload_n 0, 1), (1, .iconst 0, 1), (2, .putfield 47, 3), (5, .aload_n 0, 1), (6, .getfield 15, 3), (9, .aload_n 0, 1), (10, .getfield 9, 3), (13, .invokevirtual 51, 3), (16, .return_, 1)]
theorem dd_S_start : ∀ (i : Nat) (q : Nat × Instr × Nat), tb_S_start[i]? = some q → decode b_S_start q.1 = .ok (q.2.1, q.2.2) := z_tab (by decide +kernel)
theorem d_S_start_0 : decode b_S_start 0 = .ok (.aload_n 0, 1) := dd_S_start 0 (0, .aload_n 0, 1) rfl
theorem d_S_start_1 : decode b_S_start 1 = .ok (.iconst 0, 1) := dd_S_start 1 (1, .iconst 0, 1) rfl
theorem d_S_start_2 : decode b_S_start 2 = .ok (.putfield 47, 3) := dd_S_start 2 (2, .putfield 47, 3) rfl
theorem d_S_start_5 : decode b_S_start 5 = .ok (.aload_n 0, 1) := dd_S_start 3 (5, .aload_n 0, 1) rfl
theorem d_S_start_6 : decode b_S_start 6 = .ok (.getfield 15, 3) := dd_S_start 4 (6, .getfield 15, 3) rfl
theorem d_S_start_9 : decode b_S_start 9 = .ok (.aload_n 0, 1) := dd_S_start 5 (9, .aload_n 0, 1) rfl
theorem d_S_start_10 : decode b_S_start 10 = .ok (.getfield 9, 3) := dd_S_start 6 (10, .getfield 9, 3) rfl
theorem d_S_start_13 : decode b_S_start 13 = .ok (.invokevirtual 51, 3) := dd_S_start 7 (13, .invokevirtual 51, 3) rfl
theorem d_S_start_16 : decode b_S_start 16 = .ok (.return_, 1) := dd_S_start 8 (16, .return_, 1) rfl
def tb_S_findBest : List (Nat × Instr × Nat) := [(0, .aload_n 0, 1), (1, .iload_n 1, 1), (2, .iload_n 2, 1), (3, .iload_n 3, 1), (4, .invokevirtual 55, 3), (7, .aload_n 0, 1), (8, .getfield 43, 3), (11, .iconst 0, 1), (12, .iconst 0, 1), (13, .iconst 0, 1), (14, .iconst 0, 1), (15, .iconst (-1), 1), (16, .invokevirtual 59, 3), (19, .aload_n 0, 1), (20, .getfield 9, 3), (23, .getfield 63, 3), (26, .iload_n 3, 1), (27, .invokestatic 66, 3), (30, .istore 4, 2), (32, .iconst 0, 1), (33, .istore 5, 2), (35, .iload 5, 2), (37, .iload 4, 2), (39, .if_icmp .ge 70, 3), (42, .aload_n 0, 1), (43, .iload 5, 2), (45, .invokevirtual 70, 3), (48, .istore 6, 2), (50, .iconst 0, 1), (51, .istore 7, 2), (53, .iload 7, 2), (55, .bipush 8, 2), (57, .if_icmp .ge 46, 3), (60, .aload_n 0, 1), (61, .getfield 34, 3), (64, .aload_n 0, 1), (65, .getfield 37, 3), (68, .iload 7, 2), (70, .iaload, 1), (71, .iconst 3, 1), (72, .iand, 1), (73, .iaload, 1), (74, .iload 6, 2), (76, .if_icmp .ne 21, 3), (79, .aload_n 0, 1), (80, .dup, 1), (81, .getfield 47, 3), (84, .iconst 1, 1), (85, .iadd, 1), (86, .putfield 47, 3), (89, .aload_n 0, 1), (90, .iload 5, 2), (92, .iload 7, 2), (94, .invokevirtual 74, 3), (97, .iinc 7 1, 3), (100, .goto (-47), 3), (103, .iinc 5 1, 3), (106, .goto (-71), 3), (109, .return_, 1)]
theorem dd_S_findBest : ∀ (i : Nat) (q : Nat × Instr × Nat), tb_S_findBest[i]? = some q → decode b_S_findBest q.1 = .ok (q.2.1, q.2.2) := z_tab (by decide +kernel)
theorem d_S_findBest_0 : decode b_S_findBest 0 = .ok (.aload_n 0, 1) := dd_S_findBest 0 (0, .aload_n 0, 1) rfl
theorem d_S_findBest_1 : decode b_S_findBest 1 = .ok (.iload_n 1, 1) := dd_S_findBest 1 (1, .iload_n 1, 1) rfl
theorem d_S_findBest_2 : decode b_S_findBest 2 = .ok (.iload_n 2, 1) := dd_S_findBest 2 (2, .iload_n 2, 1) rfl
theorem d_S_findBest_3 : decode b_S_findBest 3 = .ok (.iload_n 3, 1) := dd_S_findBest 3 (3, .iload_n 3, 1) rfl
theorem d_S_findBest_4 : decode b_S_findBest 4 = .ok (.invokevirtual 55, 3) := dd_S_findBest 4 (4, .invokevirtual 55, 3) rfl
theorem d_S_findBest_7 : decode b_S_findBest 7 = .ok (.aload_n 0, 1) := dd_S_findBest 5 (7, .aload_n 0, 1) rfl
theorem d_S_findBest_8 : decode b_S_findBest 8 = .ok (.getfield 43, 3) := dd_S_findBest 6 (8, .getfield 43, 3) rfl
theorem d_S_findBest_11 : decode b_S_findBest 11 = .ok (.iconst 0, 1) := dd_S_findBest 7 (11, .iconst 0, 1) rfl
theorem d_S_findBest_12 : decode b_S_findBest 12 = .ok (.iconst 0, 1) := dd_S_findBest 8 (12, .iconst 0, 1) rfl
theorem d_S_findBest_13 : decode b_S_findBest 13 = .ok (.iconst 0, 1) := dd_S_findBest 9 (13, .iconst 0, 1) rfl
theorem d_S_findBest_14 : decode b_S_findBest 14 = .ok (.iconst 0, 1) := dd_S_findBest 10 (14, .iconst 0, 1) rfl
theorem d_S_findBest_15 : decode b_S_findBest 15 = .ok (.iconst (-1), 1) := dd_S_findBest 11 (15, .iconst (-1), 1) rfl
theorem d_S_findBest_16 : decode b_S_findBest 16 = .ok (.invokevirtual 59, 3) := dd_S_findBest 12 (16, .invokevirtual 59, 3) rfl
theorem d_S_findBest_19 : decode b_S_findBest 19 = .ok (.aload_n 0, 1) := dd_S_findBest 13 (19, .aload_n 0, 1) rfl
theorem d_S_findBest_20 : decode b_S_findBest 20 = .ok (.getfield 9, 3) := dd_S_findBest 14 (20, .getfield 9, 3) rfl
theorem d_S_findBest_23 : decode b_S_findBest 23 = .ok (.getfield 63, 3) := dd_S_findBest 15 (23, .getfield 63, 3) rfl
theorem d_S_findBest_26 : decode b_S_findBest 26 = .ok (.iload_n 3, 1) := dd_S_findBest 16 (26, .iload_n 3, 1) rfl
theorem d_S_findBest_27 : decode b_S_findBest 27 = .ok (.invokestatic 66, 3) := dd_S_findBest 17 (27, .invokestatic 66, 3) rfl
theorem d_S_findBest_30 : decode b_S_findBest 30 = .ok (.istore 4, 2) := dd_S_findBest 18 (30, .istore 4, 2) rfl
theorem d_S_findBest_32 : decode b_S_findBest 32 = .ok (.iconst 0, 1) := dd_S_findBest 19 (32, .iconst 0, 1) rfl
theorem d_S_findBest_33 : decode b_S_findBest 33 = .ok (.istore 5, 2) := dd_S_findBest 20 (33, .istore 5, 2) rfl
theorem d_S_findBest_35 : decode b_S_findBest 35 = .ok (.iload 5, 2) := dd_S_findBest 21 (35, .iload 5, 2) rfl
theorem d_S_findBest_37 : decode b_S_findBest 37 = .ok (.iload 4, 2) := dd_S_findBest 22 (37, .iload 4, 2) rfl
theorem d_S_findBest_39 : decode b_S_findBest 39 = .ok (.if_icmp .ge 70, 3) := dd_S_findBest 23 (39, .if_icmp .ge 70, 3) rfl
theorem d_S_findBest_42 : decode b_S_findBest 42 = .ok (.aload_n 0, 1) := dd_S_findBest 24 (42, .aload_n 0, 1) rfl
theorem d_S_findBest_43 : decode b_S_findBest 43 = .ok (.iload 5, 2) := dd_S_findBest 25 (43, .iload 5, 2) rfl
theorem d_S_findBest_45 : decode b_S_findBest 45 = .ok (.invokevirtual 70, 3) := dd_S_findBest 26 (45, .invokevirtual 70, 3) rfl
theorem d_S_findBest_48 : decode b_S_findBest 48 = .ok (.istore 6, 2) := dd_S_findBest 27 (48, .istore 6, 2) rfl
theorem d_S_findBest_50 : decode b_S_findBest 50 = .ok (.iconst 0, 1) := dd_S_findBest 28 (50, .iconst 0, 1) rfl
theorem d_S_findBest_51 : decode b_S_findBest 51 = .ok (.istore 7, 2) := dd_S_findBest 29 (51, .istore 7, 2) rfl
theorem d_S_findBest_53 : decode b_S_findBest 53 = .ok (.iload 7, 2) := dd_S_findBest 30 (53, .iload 7, 2) rfl
theorem d_S_findBest_55 : decode b_S_findBest 55 = .ok (.bipush 8, 2) := dd_S_findBest 31 (55, .bipush 8, 2) rfl
theorem d_S_findBest_57 : decode b_S_findBest 57 = .ok (.if_icmp .ge 46, 3) := dd_S_findBest 32 (57, .if_icmp .ge 46, 3) rfl
theorem d_S_findBest_60 : decode b_S_findBest 60 = .ok (.aload_n 0, 1) := dd_S_findBest 33 (60, .aload_n 0, 1) rfl
theorem d_S_findBest_61 : decode b_S_findBest 61 = .ok (.getfield 34, 3) := dd_S_findBest 34 (61, .getfield 34, 3) rfl
theorem d_S_findBest_64 : decode b_S_findBest 64 = .ok (.aload_n 0, 1) := dd_S_findBest 35 (64, .aload_n 0, 1) rfl
theorem d_S_findBest_65 : decode b_S_findBest 65 = .ok (.getfield 37, 3) := dd_S_findBest 36 (65, .getfield 37, 3) rfl
theorem d_S_findBest_68 : decode b_S_findBest 68 = .ok (.iload 7, 2) := dd_S_findBest 37 (68, .iload 7, 2) rfl
theorem d_S_findBest_70 : decode b_S_findBest 70 = .ok (.iaload, 1) := dd_S_findBest 38 (70, .iaload, 1) rfl
theorem d_S_findBest_71 : decode b_S_findBest 71 = .ok (.iconst 3, 1) := dd_S_findBest 39 (71, .iconst 3, 1) rfl
theorem d_S_findBest_72 : decode b_S_findBest 72 = .ok (.iand, 1) := dd_S_findBest 40 (72, .iand, 1) rfl
theorem d_S_findBest_73 : decode b_S_findBest 73 = .ok (.iaload, 1) := dd_S_findBest 41 (73, .iaload, 1) rfl
theorem d_S_findBest_74 : decode b_S_findBest 74 = .ok (.iload 6, 2) := dd_S_findBest 42 (74, .iload 6, 2) rfl
theorem d_S_findBest_76 : decode b_S_findBest 76 = .ok (.if_icmp .ne 21, 3) := dd_S_findBest 43 (76, .if_icmp .ne 21, 3) rfl
theorem d_S_findBest_79 : decode b_S_findBest 79 = .ok (.aload_n 0, 1) := dd_S_findBest 44 (79, .aload_n 0, 1) rfl
theorem d_S_findBest_80 : decode b_S_findBest 80 = .ok (.dup, 1) := dd_S_findBest 45 (80, .dup, 1) rfl
theorem d_S_findBest_81 : decode b_S_findBest 81 = .ok (.getfield 47, 3) := dd_S_findBest 46 (81, .getfield 47, 3) rfl
theorem d_S_findBest_84 : decode b_S_findBest 84 = .ok (.iconst 1, 1) := dd_S_findBest 47 (84, .iconst 1, 1) rfl
theorem d_S_findBest_85 : decode b_S_findBest 85 = .ok (.iadd, 1) := dd_S_findBest 48 (85, .iadd, 1) rfl
theorem d_S_findBest_86 : decode b_S_findBest 86 = .ok (.putfield 47, 3) := dd_S_findBest 49 (86, .putfield 47, 3) rfl
theorem d_S_findBest_89 : decode b_S_findBest 89 = .ok (.aload_n 0, 1) := dd_S_findBest 50 (89, .aload_n 0, 1) rfl
theorem d_S_findBest_90 : decode b_S_findBest 90 = .ok (.iload 5, 2) := dd_S_findBest 51 (90, .iload 5, 2) rfl
theorem d_S_findBest_92 : decode b_S_findBest 92 = .ok (.iload 7, 2) := dd_S_findBest 52 (92, .iload 7, 2) rfl
theorem d_S_findBest_94 : decode b_S_findBest 94 = .ok (.invokevirtual 74, 3) := dd_S_findBest 53 (94, .invokevirtual 74, 3) rfl
theorem d_S_findBest_97 : decode b_S_findBest 97 = .ok (.iinc 7 1, 3) := dd_S_findBest 54 (97, .iinc 7 1, 3) rfl
theorem d_S_findBest_100 : decode b_S_findBest 100 = .ok (.goto (-47), 3) := dd_S_findBest 55 (100, .goto (-47), 3) rfl
theorem d_S_findBest_103 : decode b_S_findBest 103 = .ok (.iinc 5 1, 3) := dd_S_findBest 56 (103, .iinc 5 1, 3) rfl
theorem d_S_findBest_106 : decode b_S_findBest 106 = .ok (.goto (-71), 3) := dd_S_findBest 57 (106, .goto (-71), 3) rfl
theorem d_S_findBest_109 : decode b_S_findBest 109 = .ok (.return_, 1) := dd_S_findBest 58 (109, .return_, 1) rfl
def tb_S_takeBlock : List (Nat × Instr × Nat) := [(0, .aload_n 0, 1), (1, .iload_n 3, 1), (2, .putfield 78, 3), (5, .aload_n 0, 1), (6, .iload_n 3, 1), (7, .iload_n 3, 1), (8, .imul, 1), (9, .aload_n 0, 1), (10, .getfield 28, 3), (13, .arraylength, 1), (14, .invokestatic 81, 3), (17, .putfield 86, 3), (20, .aload_n 0, 1), (21, .getfield 9, 3), (24, .iload_n 1, 1), (25, .iload_n 2, 1), (26, .iload_n 3, 1), (27, .invokevirtual 89, 3), (30, .istore 4, 2), (32, .iconst 0, 1), (33, .istore 5, 2), (35, .iload 5, 2), (37, .bipush 8, 2), (39, .if_icmp .ge 23, 3), (42, .aload_n 0, 1), (43, .getfield 37, 3), (46, .iload 5, 2), (48, .iload 5, 2), (50, .iload 4, 2), (52, .invokestatic 93, 3), (55, .iastore, 1), (56, .iinc 5 1, 3), (59, .goto (-24), 3), (62, .aload_n 0, 1), (63, .aload_n 0, 1), (64, .getfield 9, 3), (67, .iload_n 1, 1), (68, .iload_n 2, 1), (69, .iload_n 3, 1), (70, .invokevirtual 98, 3), (73, .putfield 101, 3), (76, .iconst 0, 1), (77, .istore 5, 2), (79, .iconst 0, 1), (80, .istore 6, 2), (82, .iload 6, 2), (84, .iload_n 3, 1), (85, .if_icmp .ge 59, 3), (88, .iconst 0, 1), (89, .istore 7, 2), (91, .iload 7, 2), (93, .iload_n 3, 1), (94, .if_icmp .ge 44, 3), (97, .iload 5, 2), (99, .aload_n 0, 1), (100, .getfield 28, 3), (103, .arraylength, 1), (104, .if_icmp .ge 34, 3), (107, .aload_n 0, 1), (108, .getfield 28, 3), (111, .iload 5, 2), (113, .aload_n 0, 1), (114, .getfield 9, 3), (117, .iload_n 1, 1), (118, .iload 7, 2), (120, .iadd, 1), (121, .iload_n 2, 1), (122, .iload 6, 2), (124, .iadd, 1), (125, .invokevirtual 104, 3), (128, .iastore, 1), (129, .iinc 5 1, 3), (132, .iinc 7 1, 3), (135, .goto (-44), 3), (138, .iinc 6 1, 3), (141, .goto (-59), 3), (144, .return_, 1)]
theorem dd_S_takeBlock : ∀ (i : Nat) (q : Nat × Instr × Nat), tb_S_takeBlock[i]? = some q → decode b_S_takeBlock q.1 = .ok (q.2.1, q.2.2) := z_tab (by decide +kernel)
theorem d_S_takeBlock_0 : decode b_S_takeBlock 0 = .ok (.aload_n 0, 1) := dd_S_takeBlock 0 (0, .aload_n 0, 1) rfl
theorem d_S_takeBlock_1 : decode b_S_takeBlock 1 = .ok (.iload_n 3, 1) := dd_S_takeBlock 1 (1, .iload_n 3, 1) rfl
theorem d_S_takeBlock_2 : decode b_S_takeBlock 2 = .ok (.putfield 78, 3) := dd_S_takeBlock 2 (2, .putfield 78, 3) rfl
theorem d_S_takeBlock_5 : decode b_S_takeBlock 5 = .ok (.aload_n 0, 1) := dd_S_takeBlock 3 (5, .aload_n 0, 1) rfl
theorem d_S_takeBlock_6 : decode b_S_takeBlock 6 = .ok (.iload_n 3, 1) := dd_S_takeBlock 4 (6, .iload_n 3, 1) rfl
theorem d_S_takeBlock_7 : decode b_S_takeBlock 7 = .ok (.iload_n 3, 1) := dd_S_takeBlock 5 (7, .iload_n 3, 1) rfl
theorem d_S_takeBlock_8 : decode b_S_takeBlock 8 = .ok (.imul, 1) := dd_S_takeBlock 6 (8, .imul, 1) rfl
theorem d_S_takeBlock_9 : decode b_S_takeBlock 9 = .ok (.aload_n 0, 1) := dd_S_takeBlock 7 (9, .aload_n 0, 1) rfl
theorem d_S_takeBlock_10 : decode b_S_takeBlock 10 = .ok (.getfield 28, 3) := dd_S_takeBlock 8 (10, .getfield 28, 3) rfl
theorem d_S_takeBlock_13 : decode b_S_takeBlock 13 = .ok (.arraylength, 1) := dd_S_takeBlock 9 (13, .arraylength, 1) rfl
theorem d_S_takeBlock_14 : decode b_S_takeBlock 14 = .ok (.invokestatic 81, 3) := dd_S_takeBlock 10 (14, .invokestatic 81, 3) rfl
theorem d_S_takeBlock_17 : decode b_S_takeBlock 17 = .ok (.putfield 86, 3) := dd_S_takeBlock 11 (17, .putfield 86, 3) rfl
theorem d_S_takeBlock_20 : decode b_S_takeBlock 20 = .ok (.aload_n 0, 1) := dd_S_takeBlock 12 (20, .aload_n 0, 1) rfl
theorem d_S_takeBlock_21 : decode b_S_takeBlock 21 = .ok (.getfield 9, 3) := dd_S_takeBlock 13 (21, .getfield 9, 3) rfl
theorem d_S_takeBlock_24 : decode b_S_takeBlock 24 = .ok (.iload_n 1, 1) := dd_S_takeBlock 14 (24, .iload_n 1, 1) rfl
theorem d_S_takeBlock_25 : decode b_S_takeBlock 25 = .ok (.iload_n 2, 1) := dd_S_takeBlock 15 (25, .iload_n 2, 1) rfl
theorem d_S_takeBlock_26 : decode b_S_takeBlock 26 = .ok (.iload_n 3, 1) := dd_S_takeBlock 16 (26, .iload_n 3, 1) rfl
theorem d_S_takeBlock_27 : decode b_S_takeBlock 27 = .ok (.invokevirtual 89, 3) := dd_S_takeBlock 17 (27, .invokevirtual 89, 3) rfl
theorem d_S_takeBlock_30 : decode b_S_takeBlock 30 = .ok (.istore 4, 2) := dd_S_takeBlock 18 (30, .istore 4, 2) rfl
theorem d_S_takeBlock_32 : decode b_S_takeBlock 32 = .ok (.iconst 0, 1) := dd_S_takeBlock 19 (32, .iconst 0, 1) rfl
theorem d_S_takeBlock_33 : decode b_S_takeBlock 33 = .ok (.istore 5, 2) := dd_S_takeBlock 20 (33, .istore 5, 2) rfl
theorem d_S_takeBlock_35 : decode b_S_takeBlock 35 = .ok (.iload 5, 2) := dd_S_takeBlock 21 (35, .iload 5, 2) rfl
theorem d_S_takeBlock_37 : decode b_S_takeBlock 37 = .ok (.bipush 8, 2) := dd_S_takeBlock 22 (37, .bipush 8, 2) rfl
theorem d_S_takeBlock_39 : decode b_S_takeBlock 39 = .ok (.if_icmp .ge 23, 3) := dd_S_takeBlock 23 (39, .if_icmp .ge 23, 3) rfl
theorem d_S_takeBlock_42 : decode b_S_takeBlock 42 = .ok (.aload_n 0, 1) := dd_S_takeBlock 24 (42, .aload_n 0, 1) rfl
theorem d_S_takeBlock_43 : decode b_S_takeBlock 43 = .ok (.getfield 37, 3) := dd_S_takeBlock 25 (43, .getfield 37, 3) rfl
theorem d_S_takeBlock_46 : decode b_S_takeBlock 46 = .ok (.iload 5, 2) := dd_S_takeBlock 26 (46, .iload 5, 2) rfl
theorem d_S_takeBlock_48 : decode b_S_takeBlock 48 = .ok (.iload 5, 2) := dd_S_takeBlock 27 (48, .iload 5, 2) rfl
theorem d_S_takeBlock_50 : decode b_S_takeBlock 50 = .ok (.iload 4, 2) := dd_S_takeBlock 28 (50, .iload 4, 2) rfl
theorem d_S_takeBlock_52 : decode b_S_takeBlock 52 = .ok (.invokestatic 93, 3) := dd_S_takeBlock 29 (52, .invokestatic 93, 3) rfl
theorem d_S_takeBlock_55 : decode b_S_takeBlock 55 = .ok (.iastore, 1) := dd_S_takeBlock 30 (55, .iastore, 1) rfl
theorem d_S_takeBlock_56 : decode b_S_takeBlock 56 = .ok (.iinc 5 1, 3) := dd_S_takeBlock 31 (56, .iinc 5 1, 3) rfl
theorem d_S_takeBlock_59 : decode b_S_takeBlock 59 = .ok (.goto (-24), 3) := dd_S_takeBlock 32 (59, .goto (-24), 3) rfl
theorem d_S_takeBlock_62 : decode b_S_takeBlock 62 = .ok (.aload_n 0, 1) := dd_S_takeBlock 33 (62, .aload_n 0, 1) rfl
theorem d_S_takeBlock_63 : decode b_S_takeBlock 63 = .ok (.aload_n 0, 1) := dd_S_takeBlock 34 (63, .aload_n 0, 1) rfl
theorem d_S_takeBlock_64 : decode b_S_takeBlock 64 = .ok (.getfield 9, 3) := dd_S_takeBlock 35 (64, .getfield 9, 3) rfl
theorem d_S_takeBlock_67 : decode b_S_takeBlock 67 = .ok (.iload_n 1, 1) := dd_S_takeBlock 36 (67, .iload_n 1, 1) rfl
theorem d_S_takeBlock_68 : decode b_S_takeBlock 68 = .ok (.iload_n 2, 1) := dd_S_takeBlock 37 (68, .iload_n 2, 1) rfl
theorem d_S_takeBlock_69 : decode b_S_takeBlock 69 = .ok (.iload_n 3, 1) := dd_S_takeBlock 38 (69, .iload_n 3, 1) rfl
theorem d_S_takeBlock_70 : decode b_S_takeBlock 70 = .ok (.invokevirtual 98, 3) := dd_S_takeBlock 39 (70, .invokevirtual 98, 3) rfl
theorem d_S_takeBlock_73 : decode b_S_takeBlock 73 = .ok (.putfield 101, 3) := dd_S_takeBlock 40 (73, .putfield 101, 3) rfl
theorem d_S_takeBlock_76 : decode b_S_takeBlock 76 = .ok (.iconst 0, 1) := dd_S_takeBlock 41 (76, .iconst 0, 1) rfl
theorem d_S_takeBlock_77 : decode b_S_takeBlock 77 = .ok (.istore 5, 2) := dd_S_takeBlock 42 (77, .istore 5, 2) rfl
theorem d_S_takeBlock_79 : decode b_S_takeBlock 79 = .ok (.iconst 0, 1) := dd_S_takeBlock 43 (79, .iconst 0, 1) rfl
theorem d_S_takeBlock_80 : decode b_S_takeBlock 80 = .ok (.istore 6, 2) := dd_S_takeBlock 44 (80, .istore 6, 2) rfl
theorem d_S_takeBlock_82 : decode b_S_takeBlock 82 = .ok (.iload 6, 2) := dd_S_takeBlock 45 (82, .iload 6, 2) rfl
theorem d_S_takeBlock_84 : decode b_S_takeBlock 84 = .ok (.iload_n 3, 1) := dd_S_takeBlock 46 (84, .iload_n 3, 1) rfl
theorem d_S_takeBlock_85 : decode b_S_takeBlock 85 = .ok (.if_icmp .ge 59, 3) := dd_S_takeBlock 47 (85, .if_icmp .ge 59, 3) rfl
theorem d_S_takeBlock_88 : decode b_S_takeBlock 88 = .ok (.iconst 0, 1) := dd_S_takeBlock 48 (88, .iconst 0, 1) rfl
theorem d_S_takeBlock_89 : decode b_S_takeBlock 89 = .ok (.istore 7, 2) := dd_S_takeBlock 49 (89, .istore 7, 2) rfl
theorem d_S_takeBlock_91 : decode b_S_takeBlock 91 = .ok (.iload 7, 2) := dd_S_takeBlock 50 (91, .iload 7, 2) rfl
theorem d_S_takeBlock_93 : decode b_S_takeBlock 93 = .ok (.iload_n 3, 1) := dd_S_takeBlock 51 (93, .iload_n 3, 1) rfl
theorem d_S_takeBlock_94 : decode b_S_takeBlock 94 = .ok (.if_icmp .ge 44, 3) := dd_S_takeBlock 52 (94, .if_icmp .ge 44, 3) rfl
theorem d_S_takeBlock_97 : decode b_S_takeBlock 97 = .ok (.iload 5, 2) := dd_S_takeBlock 53 (97, .iload 5, 2) rfl
theorem d_S_takeBlock_99 : decode b_S_takeBlock 99 = .ok (.aload_n 0, 1) := dd_S_takeBlock 54 (99, .aload_n 0, 1) rfl
theorem d_S_takeBlock_100 : decode b_S_takeBlock 100 = .ok (.getfield 28, 3) := dd_S_takeBlock 55 (100, .getfield 28, 3) rfl
theorem d_S_takeBlock_103 : decode b_S_takeBlock 103 = .ok (.arraylength, 1) := dd_S_takeBlock 56 (103, .arraylength, 1) rfl
theorem d_S_takeBlock_104 : decode b_S_takeBlock 104 = .ok (.if_icmp .ge 34, 3) := dd_S_takeBlock 57 (104, .if_icmp .ge 34, 3) rfl
theorem d_S_takeBlock_107 : decode b_S_takeBlock 107 = .ok (.aload_n 0, 1) := dd_S_takeBlock 58 (107, .aload_n 0, 1) rfl
theorem d_S_takeBlock_108 : decode b_S_takeBlock 108 = .ok (.getfield 28, 3) := dd_S_takeBlock 59 (108, .getfield 28, 3) rfl
theorem d_S_takeBlock_111 : decode b_S_takeBlock 111 = .ok (.iload 5, 2) := dd_S_takeBlock 60 (111, .iload 5, 2) rfl
theorem d_S_takeBlock_113 : decode b_S_takeBlock 113 = .ok (.aload_n 0, 1) := dd_S_takeBlock 61 (113, .aload_n 0, 1) rfl
theorem d_S_takeBlock_114 : decode b_S_takeBlock 114 = .ok (.getfield 9, 3) := dd_S_takeBlock 62 (114, .getfield 9, 3) rfl
theorem d_S_takeBlock_117 : decode b_S_takeBlock 117 = .ok (.iload_n 1, 1) := dd_S_takeBlock 63 (117, .iload_n 1, 1) rfl
theorem d_S_takeBlock_118 : decode b_S_takeBlock 118 = .ok (.iload 7, 2) := dd_S_takeBlock 64 (118, .iload 7, 2) rfl
theorem d_S_takeBlock_120 : decode b_S_takeBlock 120 = .ok (.iadd, 1) := dd_S_takeBlock 65 (120, .iadd, 1) rfl
theorem d_S_takeBlock_121 : decode b_S_takeBlock 121 = .ok (.iload_n 2, 1) := dd_S_takeBlock 66 (121, .iload_n 2, 1) rfl
theorem d_S_takeBlock_122 : decode b_S_takeBlock 122 = .ok (.iload 6, 2) := dd_S_takeBlock 67 (122, .iload 6, 2) rfl
theorem d_S_takeBlock_124 : decode b_S_takeBlock 124 = .ok (.iadd, 1) := dd_S_takeBlock 68 (124, .iadd, 1) rfl
theorem d_S_takeBlock_125 : decode b_S_takeBlock 125 = .ok (.invokevirtual 104, 3) := dd_S_takeBlock 69 (125, .invokevirtual 104, 3) rfl
theorem d_S_takeBlock_128 : decode b_S_takeBlock 128 = .ok (.iastore, 1) := dd_S_takeBlock 70 (128, .iastore, 1) rfl
theorem d_S_takeBlock_129 : decode b_S_takeBlock 129 = .ok (.iinc 5 1, 3) := dd_S_takeBlock 71 (129, .iinc 5 1, 3) rfl
theorem d_S_takeBlock_132 : decode b_S_takeBlock 132 = .ok (.iinc 7 1, 3) := dd_S_takeBlock 72 (132, .iinc 7 1, 3) rfl
theorem d_S_takeBlock_135 : decode b_S_takeBlock 135 = .ok (.goto (-44), 3) := dd_S_takeBlock 73 (135, .goto (-44), 3) rfl
theorem d_S_takeBlock_138 : decode b_S_takeBlock 138 = .ok (.iinc 6 1, 3) := dd_S_takeBlock 74 (138, .iinc 6 1, 3) rfl
theorem d_S_takeBlock_141 : decode b_S_takeBlock 141 = .ok (.goto (-59), 3) := dd_S_takeBlock 75 (141, .goto (-59), 3) rfl
theorem d_S_takeBlock_144 : decode b_S_takeBlock 144 = .ok (.return_, 1) := dd_S_takeBlock 76 (144, .return_, 1) rfl
def tb_S_measure : List (Nat × Instr × Nat) := [(0, .aload_n 0, 1), (1, .getfield 18, 3), (4, .aload_n 0, 1), (5, .getfield 78, 3), (8, .iload_n 1, 1), (9, .iconst 0, 1), (10, .invokevirtual 107, 3), (13, .aload_n 0, 1), (14, .getfield 78, 3), (17, .iconst 2, 1), (18, .idiv, 1), (19, .istore_n 2, 1), (20, .iconst 0, 1), (21, .istore_n 3, 1), (22, .aload_n 0, 1), (23, .iconst 0, 1), (24, .putfield 110, 3), (27, .iconst 0, 1), (28, .istore 4, 2), (30, .iload 4, 2), (32, .iconst 4, 1), (33, .if_icmp .ge 76, 3), (36, .aload_n 0, 1), (37, .getfield 15, 3), (40, .aload_n 0, 1), (41, .getfield 18, 3), (44, .getfield 113, 3), (47, .iload 4, 2), (49, .invokestatic 116, 3), (52, .iload_n 2, 1), (53, .imul, 1), (54, .iadd, 1), (55, .aload_n 0, 1), (56, .getfield 18, 3), (59, .getfield 119, 3), (62, .iload 4, 2), (64, .invokestatic 122, 3), (67, .iload_n 2, 1), (68, .imul, 1), (69, .iadd, 1), (70, .iload_n 2, 1), (71, .invokevirtual 98, 3), (74, .istore 5, 2), (76, .aload_n 0, 1), (77, .getfield 34, 3), (80, .iload 4, 2), (82, .iload 5, 2), (84, .iastore, 1), (85, .aload_n 0, 1), (86, .dup, 1), (87, .getfield 110, 3), (90, .iload 5, 2), (92, .iadd, 1), (93, .putfield 110, 3), (96, .iload_n 3, 1), (97, .iload 5, 2), (99, .invokestatic 125, 3), (102, .istore_n 3, 1), (103, .iinc 4 1, 3), (106, .goto (-76), 3), (109, .aload_n 0, 1), (110, .iconst 0, 1), (111, .putfield 128, 3), (114, .iconst 0, 1), (115, .istore 4, 2), (117, .iload 4, 2), (119, .aload_n 0, 1), (120, .getfield 78, 3), (123, .if_icmp .ge 54, 3), (126, .iconst 0, 1), (127, .istore 5, 2), (129, .iload 5, 2), (131, .aload_n 0, 1), (132, .getfield 78, 3), (135, .if_icmp .ge 36, 3), (138, .aload_n 0, 1), (139, .getfield 18, 3), (142, .iload 5, 2), (144, .iload 4, 2), (146, .invokevirtual 131, 3), (149, .istore 6, 2), (151, .aload_n 0, 1), (152, .dup, 1), (153, .getfield 128, 3), (156, .iload 6, 2), (158, .iload 6, 2), (160, .imul, 1), (161, .iadd, 1), (162, .putfield 128, 3), (165, .iinc 5 1, 3), (168, .goto (-39), 3), (171, .iinc 4 1, 3), (174, .goto (-57), 3), (177, .iload_n 3, 1), (178, .ireturn, 1)]
theorem dd_S_measure : ∀ (i : Nat) (q : Nat × Instr × Nat), tb_S_measure[i]? = some q → decode b_S_measure q.1 = .ok (q.2.1, q.2.2) := z_tab (by decide +kernel)
theorem d_S_measure_0 : decode b_S_measure 0 = .ok (.aload_n 0, 1) := dd_S_measure 0 (0, .aload_n 0, 1) rfl
theorem d_S_measure_1 : decode b_S_measure 1 = .ok (.getfield 18, 3) := dd_S_measure 1 (1, .getfield 18, 3) rfl
theorem d_S_measure_4 : decode b_S_measure 4 = .ok (.aload_n 0, 1) := dd_S_measure 2 (4, .aload_n 0, 1) rfl
theorem d_S_measure_5 : decode b_S_measure 5 = .ok (.getfield 78, 3) := dd_S_measure 3 (5, .getfield 78, 3) rfl
theorem d_S_measure_8 : decode b_S_measure 8 = .ok (.iload_n 1, 1) := dd_S_measure 4 (8, .iload_n 1, 1) rfl
theorem d_S_measure_9 : decode b_S_measure 9 = .ok (.iconst 0, 1) := dd_S_measure 5 (9, .iconst 0, 1) rfl
theorem d_S_measure_10 : decode b_S_measure 10 = .ok (.invokevirtual 107, 3) := dd_S_measure 6 (10, .invokevirtual 107, 3) rfl
theorem d_S_measure_13 : decode b_S_measure 13 = .ok (.aload_n 0, 1) := dd_S_measure 7 (13, .aload_n 0, 1) rfl
theorem d_S_measure_14 : decode b_S_measure 14 = .ok (.getfield 78, 3) := dd_S_measure 8 (14, .getfield 78, 3) rfl
theorem d_S_measure_17 : decode b_S_measure 17 = .ok (.iconst 2, 1) := dd_S_measure 9 (17, .iconst 2, 1) rfl
theorem d_S_measure_18 : decode b_S_measure 18 = .ok (.idiv, 1) := dd_S_measure 10 (18, .idiv, 1) rfl
theorem d_S_measure_19 : decode b_S_measure 19 = .ok (.istore_n 2, 1) := dd_S_measure 11 (19, .istore_n 2, 1) rfl
theorem d_S_measure_20 : decode b_S_measure 20 = .ok (.iconst 0, 1) := dd_S_measure 12 (20, .iconst 0, 1) rfl
theorem d_S_measure_21 : decode b_S_measure 21 = .ok (.istore_n 3, 1) := dd_S_measure 13 (21, .istore_n 3, 1) rfl
theorem d_S_measure_22 : decode b_S_measure 22 = .ok (.aload_n 0, 1) := dd_S_measure 14 (22, .aload_n 0, 1) rfl
theorem d_S_measure_23 : decode b_S_measure 23 = .ok (.iconst 0, 1) := dd_S_measure 15 (23, .iconst 0, 1) rfl
theorem d_S_measure_24 : decode b_S_measure 24 = .ok (.putfield 110, 3) := dd_S_measure 16 (24, .putfield 110, 3) rfl
theorem d_S_measure_27 : decode b_S_measure 27 = .ok (.iconst 0, 1) := dd_S_measure 17 (27, .iconst 0, 1) rfl
theorem d_S_measure_28 : decode b_S_measure 28 = .ok (.istore 4, 2) := dd_S_measure 18 (28, .istore 4, 2) rfl
theorem d_S_measure_30 : decode b_S_measure 30 = .ok (.iload 4, 2) := dd_S_measure 19 (30, .iload 4, 2) rfl
theorem d_S_measure_32 : decode b_S_measure 32 = .ok (.iconst 4, 1) := dd_S_measure 20 (32, .iconst 4, 1) rfl
theorem d_S_measure_33 : decode b_S_measure 33 = .ok (.if_icmp .ge 76, 3) := dd_S_measure 21 (33, .if_icmp .ge 76, 3) rfl
theorem d_S_measure_36 : decode b_S_measure 36 = .ok (.aload_n 0, 1) := dd_S_measure 22 (36, .aload_n 0, 1) rfl
theorem d_S_measure_37 : decode b_S_measure 37 = .ok (.getfield 15, 3) := dd_S_measure 23 (37, .getfield 15, 3) rfl
theorem d_S_measure_40 : decode b_S_measure 40 = .ok (.aload_n 0, 1) := dd_S_measure 24 (40, .aload_n 0, 1) rfl
theorem d_S_measure_41 : decode b_S_measure 41 = .ok (.getfield 18, 3) := dd_S_measure 25 (41, .getfield 18, 3) rfl
theorem d_S_measure_44 : decode b_S_measure 44 = .ok (.getfield 113, 3) := dd_S_measure 26 (44, .getfield 113, 3) rfl
theorem d_S_measure_47 : decode b_S_measure 47 = .ok (.iload 4, 2) := dd_S_measure 27 (47, .iload 4, 2) rfl
theorem d_S_measure_49 : decode b_S_measure 49 = .ok (.invokestatic 116, 3) := dd_S_measure 28 (49, .invokestatic 116, 3) rfl
theorem d_S_measure_52 : decode b_S_measure 52 = .ok (.iload_n 2, 1) := dd_S_measure 29 (52, .iload_n 2, 1) rfl
theorem d_S_measure_53 : decode b_S_measure 53 = .ok (.imul, 1) := dd_S_measure 30 (53, .imul, 1) rfl
theorem d_S_measure_54 : decode b_S_measure 54 = .ok (.iadd, 1) := dd_S_measure 31 (54, .iadd, 1) rfl
theorem d_S_measure_55 : decode b_S_measure 55 = .ok (.aload_n 0, 1) := dd_S_measure 32 (55, .aload_n 0, 1) rfl
theorem d_S_measure_56 : decode b_S_measure 56 = .ok (.getfield 18, 3) := dd_S_measure 33 (56, .getfield 18, 3) rfl
theorem d_S_measure_59 : decode b_S_measure 59 = .ok (.getfield 119, 3) := dd_S_measure 34 (59, .getfield 119, 3) rfl
theorem d_S_measure_62 : decode b_S_measure 62 = .ok (.iload 4, 2) := dd_S_measure 35 (62, .iload 4, 2) rfl
theorem d_S_measure_64 : decode b_S_measure 64 = .ok (.invokestatic 122, 3) := dd_S_measure 36 (64, .invokestatic 122, 3) rfl
theorem d_S_measure_67 : decode b_S_measure 67 = .ok (.iload_n 2, 1) := dd_S_measure 37 (67, .iload_n 2, 1) rfl
theorem d_S_measure_68 : decode b_S_measure 68 = .ok (.imul, 1) := dd_S_measure 38 (68, .imul, 1) rfl
theorem d_S_measure_69 : decode b_S_measure 69 = .ok (.iadd, 1) := dd_S_measure 39 (69, .iadd, 1) rfl
theorem d_S_measure_70 : decode b_S_measure 70 = .ok (.iload_n 2, 1) := dd_S_measure 40 (70, .iload_n 2, 1) rfl
theorem d_S_measure_71 : decode b_S_measure 71 = .ok (.invokevirtual 98, 3) := dd_S_measure 41 (71, .invokevirtual 98, 3) rfl
theorem d_S_measure_74 : decode b_S_measure 74 = .ok (.istore 5, 2) := dd_S_measure 42 (74, .istore 5, 2) rfl
theorem d_S_measure_76 : decode b_S_measure 76 = .ok (.aload_n 0, 1) := dd_S_measure 43 (76, .aload_n 0, 1) rfl
theorem d_S_measure_77 : decode b_S_measure 77 = .ok (.getfield 34, 3) := dd_S_measure 44 (77, .getfield 34, 3) rfl
theorem d_S_measure_80 : decode b_S_measure 80 = .ok (.iload 4, 2) := dd_S_measure 45 (80, .iload 4, 2) rfl
theorem d_S_measure_82 : decode b_S_measure 82 = .ok (.iload 5, 2) := dd_S_measure 46 (82, .iload 5, 2) rfl
theorem d_S_measure_84 : decode b_S_measure 84 = .ok (.iastore, 1) := dd_S_measure 47 (84, .iastore, 1) rfl
theorem d_S_measure_85 : decode b_S_measure 85 = .ok (.aload_n 0, 1) := dd_S_measure 48 (85, .aload_n 0, 1) rfl
theorem d_S_measure_86 : decode b_S_measure 86 = .ok (.dup, 1) := dd_S_measure 49 (86, .dup, 1) rfl
theorem d_S_measure_87 : decode b_S_measure 87 = .ok (.getfield 110, 3) := dd_S_measure 50 (87, .getfield 110, 3) rfl
theorem d_S_measure_90 : decode b_S_measure 90 = .ok (.iload 5, 2) := dd_S_measure 51 (90, .iload 5, 2) rfl
theorem d_S_measure_92 : decode b_S_measure 92 = .ok (.iadd, 1) := dd_S_measure 52 (92, .iadd, 1) rfl
theorem d_S_measure_93 : decode b_S_measure 93 = .ok (.putfield 110, 3) := dd_S_measure 53 (93, .putfield 110, 3) rfl
theorem d_S_measure_96 : decode b_S_measure 96 = .ok (.iload_n 3, 1) := dd_S_measure 54 (96, .iload_n 3, 1) rfl
theorem d_S_measure_97 : decode b_S_measure 97 = .ok (.iload 5, 2) := dd_S_measure 55 (97, .iload 5, 2) rfl
theorem d_S_measure_99 : decode b_S_measure 99 = .ok (.invokestatic 125, 3) := dd_S_measure 56 (99, .invokestatic 125, 3) rfl
theorem d_S_measure_102 : decode b_S_measure 102 = .ok (.istore_n 3, 1) := dd_S_measure 57 (102, .istore_n 3, 1) rfl
theorem d_S_measure_103 : decode b_S_measure 103 = .ok (.iinc 4 1, 3) := dd_S_measure 58 (103, .iinc 4 1, 3) rfl
theorem d_S_measure_106 : decode b_S_measure 106 = .ok (.goto (-76), 3) := dd_S_measure 59 (106, .goto (-76), 3) rfl
theorem d_S_measure_109 : decode b_S_measure 109 = .ok (.aload_n 0, 1) := dd_S_measure 60 (109, .aload_n 0, 1) rfl
theorem d_S_measure_110 : decode b_S_measure 110 = .ok (.iconst 0, 1) := dd_S_measure 61 (110, .iconst 0, 1) rfl
theorem d_S_measure_111 : decode b_S_measure 111 = .ok (.putfield 128, 3) := dd_S_measure 62 (111, .putfield 128, 3) rfl
theorem d_S_measure_114 : decode b_S_measure 114 = .ok (.iconst 0, 1) := dd_S_measure 63 (114, .iconst 0, 1) rfl
theorem d_S_measure_115 : decode b_S_measure 115 = .ok (.istore 4, 2) := dd_S_measure 64 (115, .istore 4, 2) rfl
theorem d_S_measure_117 : decode b_S_measure 117 = .ok (.iload 4, 2) := dd_S_measure 65 (117, .iload 4, 2) rfl
theorem d_S_measure_119 : decode b_S_measure 119 = .ok (.aload_n 0, 1) := dd_S_measure 66 (119, .aload_n 0, 1) rfl
theorem d_S_measure_120 : decode b_S_measure 120 = .ok (.getfield 78, 3) := dd_S_measure 67 (120, .getfield 78, 3) rfl
theorem d_S_measure_123 : decode b_S_measure 123 = .ok (.if_icmp .ge 54, 3) := dd_S_measure 68 (123, .if_icmp .ge 54, 3) rfl
theorem d_S_measure_126 : decode b_S_measure 126 = .ok (.iconst 0, 1) := dd_S_measure 69 (126, .iconst 0, 1) rfl
theorem d_S_measure_127 : decode b_S_measure 127 = .ok (.istore 5, 2) := dd_S_measure 70 (127, .istore 5, 2) rfl
theorem d_S_measure_129 : decode b_S_measure 129 = .ok (.iload 5, 2) := dd_S_measure 71 (129, .iload 5, 2) rfl
theorem d_S_measure_131 : decode b_S_measure 131 = .ok (.aload_n 0, 1) := dd_S_measure 72 (131, .aload_n 0, 1) rfl
theorem d_S_measure_132 : decode b_S_measure 132 = .ok (.getfield 78, 3) := dd_S_measure 73 (132, .getfield 78, 3) rfl
theorem d_S_measure_135 : decode b_S_measure 135 = .ok (.if_icmp .ge 36, 3) := dd_S_measure 74 (135, .if_icmp .ge 36, 3) rfl
theorem d_S_measure_138 : decode b_S_measure 138 = .ok (.aload_n 0, 1) := dd_S_measure 75 (138, .aload_n 0, 1) rfl
theorem d_S_measure_139 : decode b_S_measure 139 = .ok (.getfield 18, 3) := dd_S_measure 76 (139, .getfield 18, 3) rfl
theorem d_S_measure_142 : decode b_S_measure 142 = .ok (.iload 5, 2) := dd_S_measure 77 (142, .iload 5, 2) rfl
theorem d_S_measure_144 : decode b_S_measure 144 = .ok (.iload 4, 2) := dd_S_measure 78 (144, .iload 4, 2) rfl
theorem d_S_measure_146 : decode b_S_measure 146 = .ok (.invokevirtual 131, 3) := dd_S_measure 79 (146, .invokevirtual 131, 3) rfl
theorem d_S_measure_149 : decode b_S_measure 149 = .ok (.istore 6, 2) := dd_S_measure 80 (149, .istore 6, 2) rfl
theorem d_S_measure_151 : decode b_S_measure 151 = .ok (.aload_n 0, 1) := dd_S_measure 81 (151, .aload_n 0, 1) rfl
theorem d_S_measure_152 : decode b_S_measure 152 = .ok (.dup, 1) := dd_S_measure 82 (152, .dup, 1) rfl
theorem d_S_measure_153 : decode b_S_measure 153 = .ok (.getfield 128, 3) := dd_S_measure 83 (153, .getfield 128, 3) rfl
theorem d_S_measure_156 : decode b_S_measure 156 = .ok (.iload 6, 2) := dd_S_measure 84 (156, .iload 6, 2) rfl
theorem d_S_measure_158 : decode b_S_measure 158 = .ok (.iload 6, 2) := dd_S_measure 85 (158, .iload 6, 2) rfl
theorem d_S_measure_160 : decode b_S_measure 160 = .ok (.imul, 1) := dd_S_measure 86 (160, .imul, 1) rfl
theorem d_S_measure_161 : decode b_S_measure 161 = .ok (.iadd, 1) := dd_S_measure 87 (161, .iadd, 1) rfl
theorem d_S_measure_162 : decode b_S_measure 162 = .ok (.putfield 128, 3) := dd_S_measure 88 (162, .putfield 128, 3) rfl
theorem d_S_measure_165 : decode b_S_measure 165 = .ok (.iinc 5 1, 3) := dd_S_measure 89 (165, .iinc 5 1, 3) rfl
theorem d_S_measure_168 : decode b_S_measure 168 = .ok (.goto (-39), 3) := dd_S_measure 90 (168, .goto (-39), 3) rfl
theorem d_S_measure_171 : decode b_S_measure 171 = .ok (.iinc 4 1, 3) := dd_S_measure 91 (171, .iinc 4 1, 3) rfl
theorem d_S_measure_174 : decode b_S_measure 174 = .ok (.goto (-57), 3) := dd_S_measure 92 (174, .goto (-57), 3) rfl
theorem d_S_measure_177 : decode b_S_measure 177 = .ok (.iload_n 3, 1) := dd_S_measure 93 (177, .iload_n 3, 1) rfl
theorem d_S_measure_178 : decode b_S_measure 178 = .ok (.ireturn, 1) := dd_S_measure 94 (178, .ireturn, 1) rfl
def tb_S_tryTurn : List (Nat × Instr × Nat) := [(0, .aload_n 0, 1), (1, .getfield 18, 3), (4, .aload_n 0, 1), (5, .getfield 78, 3), (8, .iload_n 1, 1), (9, .iload_n 2, 1), (10, .invokevirtual 107, 3), (13, .aload_n 0, 1), (14, .invokevirtual 132, 3), (17, .aload_n 0, 1), (18, .invokevirtual 135, 3), (21, .istore_n 3, 1), (22, .iconst 0, 1), (23, .istore 4, 2), (25, .iconst 0, 1), (26, .istore 5, 2), (28, .iconst 0, 1), (29, .istore 6, 2), (31, .iload 6, 2), (33, .aload_n 0, 1), (34, .getfield 86, 3), (37, .if_icmp .ge 47, 3), (40, .aload_n 0, 1), (41, .getfield 28, 3), (44, .iload 6, 2), (46, .iaload, 1), (47, .aload_n 0, 1), (48, .getfield 31, 3), (51, .iload 6, 2), (53, .iaload, 1), (54, .iload_n 3, 1), (55, .invokestatic 139, 3), (58, .isub, 1), (59, .istore 7, 2), (61, .iload 4, 2), (63, .iload 7, 2), (65, .iadd, 1), (66, .istore 4, 2), (68, .iload 5, 2), (70, .iload 7, 2), (72, .iload 7, 2), (74, .imul, 1), (75, .iadd, 1), (76, .istore 5, 2), (78, .iinc 6 1, 3), (81, .goto (-50), 3), (84, .iload 4, 2), (86, .i2l, 1), (87, .aload_n 0, 1), (88, .getfield 86, 3), (91, .i2l, 1), (92, .invokestatic 142, 3), (95, .l2i, 1), (96, .istore 6, 2), (98, .iload 5, 2), (100, .iconst 2, 1), (101, .iload 6, 2), (103, .imul, 1), (104, .iload 4, 2), (106, .imul, 1), (107, .isub, 1), (108, .aload_n 0, 1), (109, .getfield 86, 3), (112, .iload 6, 2), (114, .imul, 1), (115, .iload 6, 2), (117, .imul, 1), (118, .iadd, 1), (119, .istore 7, 2), (121, .aload_n 0, 1), (122, .getfield 43, 3), (125, .getfield 146, 3), (128, .iconst (-1), 1), (129, .if_icmp .eq 15, 3), (132, .iload 7, 2), (134, .aload_n 0, 1), (135, .getfield 43, 3), (138, .getfield 146, 3), (141, .if_icmp .ge 17, 3), (144, .aload_n 0, 1), (145, .getfield 43, 3), (148, .iload_n 1, 1), (149, .iload_n 2, 1), (150, .iload_n 3, 1), (151, .iload 6, 2), (153, .iload 7, 2), (155, .invokevirtual 59, 3), (158, .return_, 1)]
theorem dd_S_tryTurn : ∀ (i : Nat) (q : Nat × Instr × Nat), tb_S_tryTurn[i]? = some q → decode b_S_tryTurn q.1 = .ok (q.2.1, q.2.2) := z_tab (by decide +kernel)
theorem d_S_tryTurn_0 : decode b_S_tryTurn 0 = .ok (.aload_n 0, 1) := dd_S_tryTurn 0 (0, .aload_n 0, 1) rfl
theorem d_S_tryTurn_1 : decode b_S_tryTurn 1 = .ok (.getfield 18, 3) := dd_S_tryTurn 1 (1, .getfield 18, 3) rfl
theorem d_S_tryTurn_4 : decode b_S_tryTurn 4 = .ok (.aload_n 0, 1) := dd_S_tryTurn 2 (4, .aload_n 0, 1) rfl
theorem d_S_tryTurn_5 : decode b_S_tryTurn 5 = .ok (.getfield 78, 3) := dd_S_tryTurn 3 (5, .getfield 78, 3) rfl
theorem d_S_tryTurn_8 : decode b_S_tryTurn 8 = .ok (.iload_n 1, 1) := dd_S_tryTurn 4 (8, .iload_n 1, 1) rfl
theorem d_S_tryTurn_9 : decode b_S_tryTurn 9 = .ok (.iload_n 2, 1) := dd_S_tryTurn 5 (9, .iload_n 2, 1) rfl
theorem d_S_tryTurn_10 : decode b_S_tryTurn 10 = .ok (.invokevirtual 107, 3) := dd_S_tryTurn 6 (10, .invokevirtual 107, 3) rfl
theorem d_S_tryTurn_13 : decode b_S_tryTurn 13 = .ok (.aload_n 0, 1) := dd_S_tryTurn 7 (13, .aload_n 0, 1) rfl
theorem d_S_tryTurn_14 : decode b_S_tryTurn 14 = .ok (.invokevirtual 132, 3) := dd_S_tryTurn 8 (14, .invokevirtual 132, 3) rfl
theorem d_S_tryTurn_17 : decode b_S_tryTurn 17 = .ok (.aload_n 0, 1) := dd_S_tryTurn 9 (17, .aload_n 0, 1) rfl
theorem d_S_tryTurn_18 : decode b_S_tryTurn 18 = .ok (.invokevirtual 135, 3) := dd_S_tryTurn 10 (18, .invokevirtual 135, 3) rfl
theorem d_S_tryTurn_21 : decode b_S_tryTurn 21 = .ok (.istore_n 3, 1) := dd_S_tryTurn 11 (21, .istore_n 3, 1) rfl
theorem d_S_tryTurn_22 : decode b_S_tryTurn 22 = .ok (.iconst 0, 1) := dd_S_tryTurn 12 (22, .iconst 0, 1) rfl
theorem d_S_tryTurn_23 : decode b_S_tryTurn 23 = .ok (.istore 4, 2) := dd_S_tryTurn 13 (23, .istore 4, 2) rfl
theorem d_S_tryTurn_25 : decode b_S_tryTurn 25 = .ok (.iconst 0, 1) := dd_S_tryTurn 14 (25, .iconst 0, 1) rfl
theorem d_S_tryTurn_26 : decode b_S_tryTurn 26 = .ok (.istore 5, 2) := dd_S_tryTurn 15 (26, .istore 5, 2) rfl
theorem d_S_tryTurn_28 : decode b_S_tryTurn 28 = .ok (.iconst 0, 1) := dd_S_tryTurn 16 (28, .iconst 0, 1) rfl
theorem d_S_tryTurn_29 : decode b_S_tryTurn 29 = .ok (.istore 6, 2) := dd_S_tryTurn 17 (29, .istore 6, 2) rfl
theorem d_S_tryTurn_31 : decode b_S_tryTurn 31 = .ok (.iload 6, 2) := dd_S_tryTurn 18 (31, .iload 6, 2) rfl
theorem d_S_tryTurn_33 : decode b_S_tryTurn 33 = .ok (.aload_n 0, 1) := dd_S_tryTurn 19 (33, .aload_n 0, 1) rfl
theorem d_S_tryTurn_34 : decode b_S_tryTurn 34 = .ok (.getfield 86, 3) := dd_S_tryTurn 20 (34, .getfield 86, 3) rfl
theorem d_S_tryTurn_37 : decode b_S_tryTurn 37 = .ok (.if_icmp .ge 47, 3) := dd_S_tryTurn 21 (37, .if_icmp .ge 47, 3) rfl
theorem d_S_tryTurn_40 : decode b_S_tryTurn 40 = .ok (.aload_n 0, 1) := dd_S_tryTurn 22 (40, .aload_n 0, 1) rfl
theorem d_S_tryTurn_41 : decode b_S_tryTurn 41 = .ok (.getfield 28, 3) := dd_S_tryTurn 23 (41, .getfield 28, 3) rfl
theorem d_S_tryTurn_44 : decode b_S_tryTurn 44 = .ok (.iload 6, 2) := dd_S_tryTurn 24 (44, .iload 6, 2) rfl
theorem d_S_tryTurn_46 : decode b_S_tryTurn 46 = .ok (.iaload, 1) := dd_S_tryTurn 25 (46, .iaload, 1) rfl
theorem d_S_tryTurn_47 : decode b_S_tryTurn 47 = .ok (.aload_n 0, 1) := dd_S_tryTurn 26 (47, .aload_n 0, 1) rfl
theorem d_S_tryTurn_48 : decode b_S_tryTurn 48 = .ok (.getfield 31, 3) := dd_S_tryTurn 27 (48, .getfield 31, 3) rfl
theorem d_S_tryTurn_51 : decode b_S_tryTurn 51 = .ok (.iload 6, 2) := dd_S_tryTurn 28 (51, .iload 6, 2) rfl
theorem d_S_tryTurn_53 : decode b_S_tryTurn 53 = .ok (.iaload, 1) := dd_S_tryTurn 29 (53, .iaload, 1) rfl
theorem d_S_tryTurn_54 : decode b_S_tryTurn 54 = .ok (.iload_n 3, 1) := dd_S_tryTurn 30 (54, .iload_n 3, 1) rfl
theorem d_S_tryTurn_55 : decode b_S_tryTurn 55 = .ok (.invokestatic 139, 3) := dd_S_tryTurn 31 (55, .invokestatic 139, 3) rfl
theorem d_S_tryTurn_58 : decode b_S_tryTurn 58 = .ok (.isub, 1) := dd_S_tryTurn 32 (58, .isub, 1) rfl
theorem d_S_tryTurn_59 : decode b_S_tryTurn 59 = .ok (.istore 7, 2) := dd_S_tryTurn 33 (59, .istore 7, 2) rfl
theorem d_S_tryTurn_61 : decode b_S_tryTurn 61 = .ok (.iload 4, 2) := dd_S_tryTurn 34 (61, .iload 4, 2) rfl
theorem d_S_tryTurn_63 : decode b_S_tryTurn 63 = .ok (.iload 7, 2) := dd_S_tryTurn 35 (63, .iload 7, 2) rfl
theorem d_S_tryTurn_65 : decode b_S_tryTurn 65 = .ok (.iadd, 1) := dd_S_tryTurn 36 (65, .iadd, 1) rfl
theorem d_S_tryTurn_66 : decode b_S_tryTurn 66 = .ok (.istore 4, 2) := dd_S_tryTurn 37 (66, .istore 4, 2) rfl
theorem d_S_tryTurn_68 : decode b_S_tryTurn 68 = .ok (.iload 5, 2) := dd_S_tryTurn 38 (68, .iload 5, 2) rfl
theorem d_S_tryTurn_70 : decode b_S_tryTurn 70 = .ok (.iload 7, 2) := dd_S_tryTurn 39 (70, .iload 7, 2) rfl
theorem d_S_tryTurn_72 : decode b_S_tryTurn 72 = .ok (.iload 7, 2) := dd_S_tryTurn 40 (72, .iload 7, 2) rfl
theorem d_S_tryTurn_74 : decode b_S_tryTurn 74 = .ok (.imul, 1) := dd_S_tryTurn 41 (74, .imul, 1) rfl
theorem d_S_tryTurn_75 : decode b_S_tryTurn 75 = .ok (.iadd, 1) := dd_S_tryTurn 42 (75, .iadd, 1) rfl
theorem d_S_tryTurn_76 : decode b_S_tryTurn 76 = .ok (.istore 5, 2) := dd_S_tryTurn 43 (76, .istore 5, 2) rfl
theorem d_S_tryTurn_78 : decode b_S_tryTurn 78 = .ok (.iinc 6 1, 3) := dd_S_tryTurn 44 (78, .iinc 6 1, 3) rfl
theorem d_S_tryTurn_81 : decode b_S_tryTurn 81 = .ok (.goto (-50), 3) := dd_S_tryTurn 45 (81, .goto (-50), 3) rfl
theorem d_S_tryTurn_84 : decode b_S_tryTurn 84 = .ok (.iload 4, 2) := dd_S_tryTurn 46 (84, .iload 4, 2) rfl
theorem d_S_tryTurn_86 : decode b_S_tryTurn 86 = .ok (.i2l, 1) := dd_S_tryTurn 47 (86, .i2l, 1) rfl
theorem d_S_tryTurn_87 : decode b_S_tryTurn 87 = .ok (.aload_n 0, 1) := dd_S_tryTurn 48 (87, .aload_n 0, 1) rfl
theorem d_S_tryTurn_88 : decode b_S_tryTurn 88 = .ok (.getfield 86, 3) := dd_S_tryTurn 49 (88, .getfield 86, 3) rfl
theorem d_S_tryTurn_91 : decode b_S_tryTurn 91 = .ok (.i2l, 1) := dd_S_tryTurn 50 (91, .i2l, 1) rfl
theorem d_S_tryTurn_92 : decode b_S_tryTurn 92 = .ok (.invokestatic 142, 3) := dd_S_tryTurn 51 (92, .invokestatic 142, 3) rfl
theorem d_S_tryTurn_95 : decode b_S_tryTurn 95 = .ok (.l2i, 1) := dd_S_tryTurn 52 (95, .l2i, 1) rfl
theorem d_S_tryTurn_96 : decode b_S_tryTurn 96 = .ok (.istore 6, 2) := dd_S_tryTurn 53 (96, .istore 6, 2) rfl
theorem d_S_tryTurn_98 : decode b_S_tryTurn 98 = .ok (.iload 5, 2) := dd_S_tryTurn 54 (98, .iload 5, 2) rfl
theorem d_S_tryTurn_100 : decode b_S_tryTurn 100 = .ok (.iconst 2, 1) := dd_S_tryTurn 55 (100, .iconst 2, 1) rfl
theorem d_S_tryTurn_101 : decode b_S_tryTurn 101 = .ok (.iload 6, 2) := dd_S_tryTurn 56 (101, .iload 6, 2) rfl
theorem d_S_tryTurn_103 : decode b_S_tryTurn 103 = .ok (.imul, 1) := dd_S_tryTurn 57 (103, .imul, 1) rfl
theorem d_S_tryTurn_104 : decode b_S_tryTurn 104 = .ok (.iload 4, 2) := dd_S_tryTurn 58 (104, .iload 4, 2) rfl
theorem d_S_tryTurn_106 : decode b_S_tryTurn 106 = .ok (.imul, 1) := dd_S_tryTurn 59 (106, .imul, 1) rfl
theorem d_S_tryTurn_107 : decode b_S_tryTurn 107 = .ok (.isub, 1) := dd_S_tryTurn 60 (107, .isub, 1) rfl
theorem d_S_tryTurn_108 : decode b_S_tryTurn 108 = .ok (.aload_n 0, 1) := dd_S_tryTurn 61 (108, .aload_n 0, 1) rfl
theorem d_S_tryTurn_109 : decode b_S_tryTurn 109 = .ok (.getfield 86, 3) := dd_S_tryTurn 62 (109, .getfield 86, 3) rfl
theorem d_S_tryTurn_112 : decode b_S_tryTurn 112 = .ok (.iload 6, 2) := dd_S_tryTurn 63 (112, .iload 6, 2) rfl
theorem d_S_tryTurn_114 : decode b_S_tryTurn 114 = .ok (.imul, 1) := dd_S_tryTurn 64 (114, .imul, 1) rfl
theorem d_S_tryTurn_115 : decode b_S_tryTurn 115 = .ok (.iload 6, 2) := dd_S_tryTurn 65 (115, .iload 6, 2) rfl
theorem d_S_tryTurn_117 : decode b_S_tryTurn 117 = .ok (.imul, 1) := dd_S_tryTurn 66 (117, .imul, 1) rfl
theorem d_S_tryTurn_118 : decode b_S_tryTurn 118 = .ok (.iadd, 1) := dd_S_tryTurn 67 (118, .iadd, 1) rfl
theorem d_S_tryTurn_119 : decode b_S_tryTurn 119 = .ok (.istore 7, 2) := dd_S_tryTurn 68 (119, .istore 7, 2) rfl
theorem d_S_tryTurn_121 : decode b_S_tryTurn 121 = .ok (.aload_n 0, 1) := dd_S_tryTurn 69 (121, .aload_n 0, 1) rfl
theorem d_S_tryTurn_122 : decode b_S_tryTurn 122 = .ok (.getfield 43, 3) := dd_S_tryTurn 70 (122, .getfield 43, 3) rfl
theorem d_S_tryTurn_125 : decode b_S_tryTurn 125 = .ok (.getfield 146, 3) := dd_S_tryTurn 71 (125, .getfield 146, 3) rfl
theorem d_S_tryTurn_128 : decode b_S_tryTurn 128 = .ok (.iconst (-1), 1) := dd_S_tryTurn 72 (128, .iconst (-1), 1) rfl
theorem d_S_tryTurn_129 : decode b_S_tryTurn 129 = .ok (.if_icmp .eq 15, 3) := dd_S_tryTurn 73 (129, .if_icmp .eq 15, 3) rfl
theorem d_S_tryTurn_132 : decode b_S_tryTurn 132 = .ok (.iload 7, 2) := dd_S_tryTurn 74 (132, .iload 7, 2) rfl
theorem d_S_tryTurn_134 : decode b_S_tryTurn 134 = .ok (.aload_n 0, 1) := dd_S_tryTurn 75 (134, .aload_n 0, 1) rfl
theorem d_S_tryTurn_135 : decode b_S_tryTurn 135 = .ok (.getfield 43, 3) := dd_S_tryTurn 76 (135, .getfield 43, 3) rfl
theorem d_S_tryTurn_138 : decode b_S_tryTurn 138 = .ok (.getfield 146, 3) := dd_S_tryTurn 77 (138, .getfield 146, 3) rfl
theorem d_S_tryTurn_141 : decode b_S_tryTurn 141 = .ok (.if_icmp .ge 17, 3) := dd_S_tryTurn 78 (141, .if_icmp .ge 17, 3) rfl
theorem d_S_tryTurn_144 : decode b_S_tryTurn 144 = .ok (.aload_n 0, 1) := dd_S_tryTurn 79 (144, .aload_n 0, 1) rfl
theorem d_S_tryTurn_145 : decode b_S_tryTurn 145 = .ok (.getfield 43, 3) := dd_S_tryTurn 80 (145, .getfield 43, 3) rfl
theorem d_S_tryTurn_148 : decode b_S_tryTurn 148 = .ok (.iload_n 1, 1) := dd_S_tryTurn 81 (148, .iload_n 1, 1) rfl
theorem d_S_tryTurn_149 : decode b_S_tryTurn 149 = .ok (.iload_n 2, 1) := dd_S_tryTurn 82 (149, .iload_n 2, 1) rfl
theorem d_S_tryTurn_150 : decode b_S_tryTurn 150 = .ok (.iload_n 3, 1) := dd_S_tryTurn 83 (150, .iload_n 3, 1) rfl
theorem d_S_tryTurn_151 : decode b_S_tryTurn 151 = .ok (.iload 6, 2) := dd_S_tryTurn 84 (151, .iload 6, 2) rfl
theorem d_S_tryTurn_153 : decode b_S_tryTurn 153 = .ok (.iload 7, 2) := dd_S_tryTurn 85 (153, .iload 7, 2) rfl
theorem d_S_tryTurn_155 : decode b_S_tryTurn 155 = .ok (.invokevirtual 59, 3) := dd_S_tryTurn 86 (155, .invokevirtual 59, 3) rfl
theorem d_S_tryTurn_158 : decode b_S_tryTurn 158 = .ok (.return_, 1) := dd_S_tryTurn 87 (158, .return_, 1) rfl
def tb_S_takeDomain : List (Nat × Instr × Nat) := [(0, .iconst 0, 1), (1, .istore_n 1, 1), (2, .iconst 0, 1), (3, .istore_n 2, 1), (4, .iload_n 2, 1), (5, .aload_n 0, 1), (6, .getfield 78, 3), (9, .if_icmp .ge 52, 3), (12, .iconst 0, 1), (13, .istore_n 3, 1), (14, .iload_n 3, 1), (15, .aload_n 0, 1), (16, .getfield 78, 3), (19, .if_icmp .ge 36, 3), (22, .iload_n 1, 1), (23, .aload_n 0, 1), (24, .getfield 31, 3), (27, .arraylength, 1), (28, .if_icmp .ge 27, 3), (31, .aload_n 0, 1), (32, .getfield 31, 3), (35, .iload_n 1, 1), (36, .aload_n 0, 1), (37, .getfield 18, 3), (40, .iload_n 3, 1), (41, .iload_n 2, 1), (42, .invokevirtual 131, 3), (45, .iastore, 1), (46, .iinc 1 1, 3), (49, .iinc 3 1, 3), (52, .goto (-38), 3), (55, .iinc 2 1, 3), (58, .goto (-54), 3), (61, .return_, 1)]
theorem dd_S_takeDomain : ∀ (i : Nat) (q : Nat × Instr × Nat), tb_S_takeDomain[i]? = some q → decode b_S_takeDomain q.1 = .ok (q.2.1, q.2.2) := z_tab (by decide +kernel)
theorem d_S_takeDomain_0 : decode b_S_takeDomain 0 = .ok (.iconst 0, 1) := dd_S_takeDomain 0 (0, .iconst 0, 1) rfl
theorem d_S_takeDomain_1 : decode b_S_takeDomain 1 = .ok (.istore_n 1, 1) := dd_S_takeDomain 1 (1, .istore_n 1, 1) rfl
theorem d_S_takeDomain_2 : decode b_S_takeDomain 2 = .ok (.iconst 0, 1) := dd_S_takeDomain 2 (2, .iconst 0, 1) rfl
theorem d_S_takeDomain_3 : decode b_S_takeDomain 3 = .ok (.istore_n 2, 1) := dd_S_takeDomain 3 (3, .istore_n 2, 1) rfl
theorem d_S_takeDomain_4 : decode b_S_takeDomain 4 = .ok (.iload_n 2, 1) := dd_S_takeDomain 4 (4, .iload_n 2, 1) rfl
theorem d_S_takeDomain_5 : decode b_S_takeDomain 5 = .ok (.aload_n 0, 1) := dd_S_takeDomain 5 (5, .aload_n 0, 1) rfl
theorem d_S_takeDomain_6 : decode b_S_takeDomain 6 = .ok (.getfield 78, 3) := dd_S_takeDomain 6 (6, .getfield 78, 3) rfl
theorem d_S_takeDomain_9 : decode b_S_takeDomain 9 = .ok (.if_icmp .ge 52, 3) := dd_S_takeDomain 7 (9, .if_icmp .ge 52, 3) rfl
theorem d_S_takeDomain_12 : decode b_S_takeDomain 12 = .ok (.iconst 0, 1) := dd_S_takeDomain 8 (12, .iconst 0, 1) rfl
theorem d_S_takeDomain_13 : decode b_S_takeDomain 13 = .ok (.istore_n 3, 1) := dd_S_takeDomain 9 (13, .istore_n 3, 1) rfl
theorem d_S_takeDomain_14 : decode b_S_takeDomain 14 = .ok (.iload_n 3, 1) := dd_S_takeDomain 10 (14, .iload_n 3, 1) rfl
theorem d_S_takeDomain_15 : decode b_S_takeDomain 15 = .ok (.aload_n 0, 1) := dd_S_takeDomain 11 (15, .aload_n 0, 1) rfl
theorem d_S_takeDomain_16 : decode b_S_takeDomain 16 = .ok (.getfield 78, 3) := dd_S_takeDomain 12 (16, .getfield 78, 3) rfl
theorem d_S_takeDomain_19 : decode b_S_takeDomain 19 = .ok (.if_icmp .ge 36, 3) := dd_S_takeDomain 13 (19, .if_icmp .ge 36, 3) rfl
theorem d_S_takeDomain_22 : decode b_S_takeDomain 22 = .ok (.iload_n 1, 1) := dd_S_takeDomain 14 (22, .iload_n 1, 1) rfl
theorem d_S_takeDomain_23 : decode b_S_takeDomain 23 = .ok (.aload_n 0, 1) := dd_S_takeDomain 15 (23, .aload_n 0, 1) rfl
theorem d_S_takeDomain_24 : decode b_S_takeDomain 24 = .ok (.getfield 31, 3) := dd_S_takeDomain 16 (24, .getfield 31, 3) rfl
theorem d_S_takeDomain_27 : decode b_S_takeDomain 27 = .ok (.arraylength, 1) := dd_S_takeDomain 17 (27, .arraylength, 1) rfl
theorem d_S_takeDomain_28 : decode b_S_takeDomain 28 = .ok (.if_icmp .ge 27, 3) := dd_S_takeDomain 18 (28, .if_icmp .ge 27, 3) rfl
theorem d_S_takeDomain_31 : decode b_S_takeDomain 31 = .ok (.aload_n 0, 1) := dd_S_takeDomain 19 (31, .aload_n 0, 1) rfl
theorem d_S_takeDomain_32 : decode b_S_takeDomain 32 = .ok (.getfield 31, 3) := dd_S_takeDomain 20 (32, .getfield 31, 3) rfl
theorem d_S_takeDomain_35 : decode b_S_takeDomain 35 = .ok (.iload_n 1, 1) := dd_S_takeDomain 21 (35, .iload_n 1, 1) rfl
theorem d_S_takeDomain_36 : decode b_S_takeDomain 36 = .ok (.aload_n 0, 1) := dd_S_takeDomain 22 (36, .aload_n 0, 1) rfl
theorem d_S_takeDomain_37 : decode b_S_takeDomain 37 = .ok (.getfield 18, 3) := dd_S_takeDomain 23 (37, .getfield 18, 3) rfl
theorem d_S_takeDomain_40 : decode b_S_takeDomain 40 = .ok (.iload_n 3, 1) := dd_S_takeDomain 24 (40, .iload_n 3, 1) rfl
theorem d_S_takeDomain_41 : decode b_S_takeDomain 41 = .ok (.iload_n 2, 1) := dd_S_takeDomain 25 (41, .iload_n 2, 1) rfl
theorem d_S_takeDomain_42 : decode b_S_takeDomain 42 = .ok (.invokevirtual 131, 3) := dd_S_takeDomain 26 (42, .invokevirtual 131, 3) rfl
theorem d_S_takeDomain_45 : decode b_S_takeDomain 45 = .ok (.iastore, 1) := dd_S_takeDomain 27 (45, .iastore, 1) rfl
theorem d_S_takeDomain_46 : decode b_S_takeDomain 46 = .ok (.iinc 1 1, 3) := dd_S_takeDomain 28 (46, .iinc 1 1, 3) rfl
theorem d_S_takeDomain_49 : decode b_S_takeDomain 49 = .ok (.iinc 3 1, 3) := dd_S_takeDomain 29 (49, .iinc 3 1, 3) rfl
theorem d_S_takeDomain_52 : decode b_S_takeDomain 52 = .ok (.goto (-38), 3) := dd_S_takeDomain 30 (52, .goto (-38), 3) rfl
theorem d_S_takeDomain_55 : decode b_S_takeDomain 55 = .ok (.iinc 2 1, 3) := dd_S_takeDomain 31 (55, .iinc 2 1, 3) rfl
theorem d_S_takeDomain_58 : decode b_S_takeDomain 58 = .ok (.goto (-54), 3) := dd_S_takeDomain 32 (58, .goto (-54), 3) rfl
theorem d_S_takeDomain_61 : decode b_S_takeDomain 61 = .ok (.return_, 1) := dd_S_takeDomain 33 (61, .return_, 1) rfl
def tb_S_contrastWanted : List (Nat × Instr × Nat) := [(0, .aload_n 0, 1), (1, .getfield 86, 3), (4, .i2l, 1), (5, .aload_n 0, 1), (6, .getfield 128, 3), (9, .i2l, 1), (10, .lmul, 1), (11, .aload_n 0, 1), (12, .getfield 110, 3), (15, .i2l, 1), (16, .aload_n 0, 1), (17, .getfield 110, 3), (20, .i2l, 1), (21, .lmul, 1), (22, .lsub, 1), (23, .lstore_n 1, 1), (24, .lload_n 1, 1), (25, .lconst 0, 1), (26, .lcmp, 1), (27, .ifCond .gt 5, 3), (30, .iconst 0, 1), (31, .ireturn, 1), (32, .lconst 0, 1), (33, .lstore_n 3, 1), (34, .iconst 0, 1), (35, .istore 5, 2), (37, .iload 5, 2), (39, .aload_n 0, 1), (40, .getfield 86, 3), (43, .if_icmp .ge 29, 3), (46, .lload_n 3, 1), (47, .aload_n 0, 1), (48, .getfield 28, 3), (51, .iload 5, 2), (53, .iaload, 1), (54, .i2l, 1), (55, .aload_n 0, 1), (56, .getfield 31, 3), (59, .iload 5, 2), (61, .iaload, 1), (62, .i2l, 1), (63, .lmul, 1), (64, .ladd, 1), (65, .lstore_n 3, 1), (66, .iinc 5 1, 3), (69, .goto (-32), 3), (72, .aload_n 0, 1), (73, .getfield 86, 3), (76, .i2l, 1), (77, .lload_n 3, 1), (78, .lmul, 1), (79, .aload_n 0, 1), (80, .getfield 110, 3), (83, .i2l, 1), (84, .aload_n 0, 1), (85, .getfield 101, 3), (88, .i2l, 1), (89, .lmul, 1), (90, .lsub, 1), (91, .lstore 5, 2), (93, .ldc2_w 149, 3), (96, .lload 5, 2), (98, .lmul, 1), (99, .lload_n 1, 1), (100, .invokestatic 142, 3), (103, .ldc2_w 151, 3), (106, .ldc2_w 153, 3), (109, .invokestatic 155, 3), (112, .l2i, 1), (113, .ireturn, 1)]
theorem dd_S_contrastWanted : ∀ (i : Nat) (q : Nat × Instr × Nat), tb_S_contrastWanted[i]? = some q → decode b_S_contrastWanted q.1 = .ok (q.2.1, q.2.2) := z_tab (by decide +kernel)
theorem d_S_contrastWanted_0 : decode b_S_contrastWanted 0 = .ok (.aload_n 0, 1) := dd_S_contrastWanted 0 (0, .aload_n 0, 1) rfl
theorem d_S_contrastWanted_1 : decode b_S_contrastWanted 1 = .ok (.getfield 86, 3) := dd_S_contrastWanted 1 (1, .getfield 86, 3) rfl
theorem d_S_contrastWanted_4 : decode b_S_contrastWanted 4 = .ok (.i2l, 1) := dd_S_contrastWanted 2 (4, .i2l, 1) rfl
theorem d_S_contrastWanted_5 : decode b_S_contrastWanted 5 = .ok (.aload_n 0, 1) := dd_S_contrastWanted 3 (5, .aload_n 0, 1) rfl
theorem d_S_contrastWanted_6 : decode b_S_contrastWanted 6 = .ok (.getfield 128, 3) := dd_S_contrastWanted 4 (6, .getfield 128, 3) rfl
theorem d_S_contrastWanted_9 : decode b_S_contrastWanted 9 = .ok (.i2l, 1) := dd_S_contrastWanted 5 (9, .i2l, 1) rfl
theorem d_S_contrastWanted_10 : decode b_S_contrastWanted 10 = .ok (.lmul, 1) := dd_S_contrastWanted 6 (10, .lmul, 1) rfl
theorem d_S_contrastWanted_11 : decode b_S_contrastWanted 11 = .ok (.aload_n 0, 1) := dd_S_contrastWanted 7 (11, .aload_n 0, 1) rfl
theorem d_S_contrastWanted_12 : decode b_S_contrastWanted 12 = .ok (.getfield 110, 3) := dd_S_contrastWanted 8 (12, .getfield 110, 3) rfl
theorem d_S_contrastWanted_15 : decode b_S_contrastWanted 15 = .ok (.i2l, 1) := dd_S_contrastWanted 9 (15, .i2l, 1) rfl
theorem d_S_contrastWanted_16 : decode b_S_contrastWanted 16 = .ok (.aload_n 0, 1) := dd_S_contrastWanted 10 (16, .aload_n 0, 1) rfl
theorem d_S_contrastWanted_17 : decode b_S_contrastWanted 17 = .ok (.getfield 110, 3) := dd_S_contrastWanted 11 (17, .getfield 110, 3) rfl
theorem d_S_contrastWanted_20 : decode b_S_contrastWanted 20 = .ok (.i2l, 1) := dd_S_contrastWanted 12 (20, .i2l, 1) rfl
theorem d_S_contrastWanted_21 : decode b_S_contrastWanted 21 = .ok (.lmul, 1) := dd_S_contrastWanted 13 (21, .lmul, 1) rfl
theorem d_S_contrastWanted_22 : decode b_S_contrastWanted 22 = .ok (.lsub, 1) := dd_S_contrastWanted 14 (22, .lsub, 1) rfl
theorem d_S_contrastWanted_23 : decode b_S_contrastWanted 23 = .ok (.lstore_n 1, 1) := dd_S_contrastWanted 15 (23, .lstore_n 1, 1) rfl
theorem d_S_contrastWanted_24 : decode b_S_contrastWanted 24 = .ok (.lload_n 1, 1) := dd_S_contrastWanted 16 (24, .lload_n 1, 1) rfl
theorem d_S_contrastWanted_25 : decode b_S_contrastWanted 25 = .ok (.lconst 0, 1) := dd_S_contrastWanted 17 (25, .lconst 0, 1) rfl
theorem d_S_contrastWanted_26 : decode b_S_contrastWanted 26 = .ok (.lcmp, 1) := dd_S_contrastWanted 18 (26, .lcmp, 1) rfl
theorem d_S_contrastWanted_27 : decode b_S_contrastWanted 27 = .ok (.ifCond .gt 5, 3) := dd_S_contrastWanted 19 (27, .ifCond .gt 5, 3) rfl
theorem d_S_contrastWanted_30 : decode b_S_contrastWanted 30 = .ok (.iconst 0, 1) := dd_S_contrastWanted 20 (30, .iconst 0, 1) rfl
theorem d_S_contrastWanted_31 : decode b_S_contrastWanted 31 = .ok (.ireturn, 1) := dd_S_contrastWanted 21 (31, .ireturn, 1) rfl
theorem d_S_contrastWanted_32 : decode b_S_contrastWanted 32 = .ok (.lconst 0, 1) := dd_S_contrastWanted 22 (32, .lconst 0, 1) rfl
theorem d_S_contrastWanted_33 : decode b_S_contrastWanted 33 = .ok (.lstore_n 3, 1) := dd_S_contrastWanted 23 (33, .lstore_n 3, 1) rfl
theorem d_S_contrastWanted_34 : decode b_S_contrastWanted 34 = .ok (.iconst 0, 1) := dd_S_contrastWanted 24 (34, .iconst 0, 1) rfl
theorem d_S_contrastWanted_35 : decode b_S_contrastWanted 35 = .ok (.istore 5, 2) := dd_S_contrastWanted 25 (35, .istore 5, 2) rfl
theorem d_S_contrastWanted_37 : decode b_S_contrastWanted 37 = .ok (.iload 5, 2) := dd_S_contrastWanted 26 (37, .iload 5, 2) rfl
theorem d_S_contrastWanted_39 : decode b_S_contrastWanted 39 = .ok (.aload_n 0, 1) := dd_S_contrastWanted 27 (39, .aload_n 0, 1) rfl
theorem d_S_contrastWanted_40 : decode b_S_contrastWanted 40 = .ok (.getfield 86, 3) := dd_S_contrastWanted 28 (40, .getfield 86, 3) rfl
theorem d_S_contrastWanted_43 : decode b_S_contrastWanted 43 = .ok (.if_icmp .ge 29, 3) := dd_S_contrastWanted 29 (43, .if_icmp .ge 29, 3) rfl
theorem d_S_contrastWanted_46 : decode b_S_contrastWanted 46 = .ok (.lload_n 3, 1) := dd_S_contrastWanted 30 (46, .lload_n 3, 1) rfl
theorem d_S_contrastWanted_47 : decode b_S_contrastWanted 47 = .ok (.aload_n 0, 1) := dd_S_contrastWanted 31 (47, .aload_n 0, 1) rfl
theorem d_S_contrastWanted_48 : decode b_S_contrastWanted 48 = .ok (.getfield 28, 3) := dd_S_contrastWanted 32 (48, .getfield 28, 3) rfl
theorem d_S_contrastWanted_51 : decode b_S_contrastWanted 51 = .ok (.iload 5, 2) := dd_S_contrastWanted 33 (51, .iload 5, 2) rfl
theorem d_S_contrastWanted_53 : decode b_S_contrastWanted 53 = .ok (.iaload, 1) := dd_S_contrastWanted 34 (53, .iaload, 1) rfl
theorem d_S_contrastWanted_54 : decode b_S_contrastWanted 54 = .ok (.i2l, 1) := dd_S_contrastWanted 35 (54, .i2l, 1) rfl
theorem d_S_contrastWanted_55 : decode b_S_contrastWanted 55 = .ok (.aload_n 0, 1) := dd_S_contrastWanted 36 (55, .aload_n 0, 1) rfl
theorem d_S_contrastWanted_56 : decode b_S_contrastWanted 56 = .ok (.getfield 31, 3) := dd_S_contrastWanted 37 (56, .getfield 31, 3) rfl
theorem d_S_contrastWanted_59 : decode b_S_contrastWanted 59 = .ok (.iload 5, 2) := dd_S_contrastWanted 38 (59, .iload 5, 2) rfl
theorem d_S_contrastWanted_61 : decode b_S_contrastWanted 61 = .ok (.iaload, 1) := dd_S_contrastWanted 39 (61, .iaload, 1) rfl
theorem d_S_contrastWanted_62 : decode b_S_contrastWanted 62 = .ok (.i2l, 1) := dd_S_contrastWanted 40 (62, .i2l, 1) rfl
theorem d_S_contrastWanted_63 : decode b_S_contrastWanted 63 = .ok (.lmul, 1) := dd_S_contrastWanted 41 (63, .lmul, 1) rfl
theorem d_S_contrastWanted_64 : decode b_S_contrastWanted 64 = .ok (.ladd, 1) := dd_S_contrastWanted 42 (64, .ladd, 1) rfl
theorem d_S_contrastWanted_65 : decode b_S_contrastWanted 65 = .ok (.lstore_n 3, 1) := dd_S_contrastWanted 43 (65, .lstore_n 3, 1) rfl
theorem d_S_contrastWanted_66 : decode b_S_contrastWanted 66 = .ok (.iinc 5 1, 3) := dd_S_contrastWanted 44 (66, .iinc 5 1, 3) rfl
theorem d_S_contrastWanted_69 : decode b_S_contrastWanted 69 = .ok (.goto (-32), 3) := dd_S_contrastWanted 45 (69, .goto (-32), 3) rfl
theorem d_S_contrastWanted_72 : decode b_S_contrastWanted 72 = .ok (.aload_n 0, 1) := dd_S_contrastWanted 46 (72, .aload_n 0, 1) rfl
theorem d_S_contrastWanted_73 : decode b_S_contrastWanted 73 = .ok (.getfield 86, 3) := dd_S_contrastWanted 47 (73, .getfield 86, 3) rfl
theorem d_S_contrastWanted_76 : decode b_S_contrastWanted 76 = .ok (.i2l, 1) := dd_S_contrastWanted 48 (76, .i2l, 1) rfl
theorem d_S_contrastWanted_77 : decode b_S_contrastWanted 77 = .ok (.lload_n 3, 1) := dd_S_contrastWanted 49 (77, .lload_n 3, 1) rfl
theorem d_S_contrastWanted_78 : decode b_S_contrastWanted 78 = .ok (.lmul, 1) := dd_S_contrastWanted 50 (78, .lmul, 1) rfl
theorem d_S_contrastWanted_79 : decode b_S_contrastWanted 79 = .ok (.aload_n 0, 1) := dd_S_contrastWanted 51 (79, .aload_n 0, 1) rfl
theorem d_S_contrastWanted_80 : decode b_S_contrastWanted 80 = .ok (.getfield 110, 3) := dd_S_contrastWanted 52 (80, .getfield 110, 3) rfl
theorem d_S_contrastWanted_83 : decode b_S_contrastWanted 83 = .ok (.i2l, 1) := dd_S_contrastWanted 53 (83, .i2l, 1) rfl
theorem d_S_contrastWanted_84 : decode b_S_contrastWanted 84 = .ok (.aload_n 0, 1) := dd_S_contrastWanted 54 (84, .aload_n 0, 1) rfl
theorem d_S_contrastWanted_85 : decode b_S_contrastWanted 85 = .ok (.getfield 101, 3) := dd_S_contrastWanted 55 (85, .getfield 101, 3) rfl
theorem d_S_contrastWanted_88 : decode b_S_contrastWanted 88 = .ok (.i2l, 1) := dd_S_contrastWanted 56 (88, .i2l, 1) rfl
theorem d_S_contrastWanted_89 : decode b_S_contrastWanted 89 = .ok (.lmul, 1) := dd_S_contrastWanted 57 (89, .lmul, 1) rfl
theorem d_S_contrastWanted_90 : decode b_S_contrastWanted 90 = .ok (.lsub, 1) := dd_S_contrastWanted 58 (90, .lsub, 1) rfl
theorem d_S_contrastWanted_91 : decode b_S_contrastWanted 91 = .ok (.lstore 5, 2) := dd_S_contrastWanted 59 (91, .lstore 5, 2) rfl
theorem d_S_contrastWanted_93 : decode b_S_contrastWanted 93 = .ok (.ldc2_w 149, 3) := dd_S_contrastWanted 60 (93, .ldc2_w 149, 3) rfl
theorem d_S_contrastWanted_96 : decode b_S_contrastWanted 96 = .ok (.lload 5, 2) := dd_S_contrastWanted 61 (96, .lload 5, 2) rfl
theorem d_S_contrastWanted_98 : decode b_S_contrastWanted 98 = .ok (.lmul, 1) := dd_S_contrastWanted 62 (98, .lmul, 1) rfl
theorem d_S_contrastWanted_99 : decode b_S_contrastWanted 99 = .ok (.lload_n 1, 1) := dd_S_contrastWanted 63 (99, .lload_n 1, 1) rfl
theorem d_S_contrastWanted_100 : decode b_S_contrastWanted 100 = .ok (.invokestatic 142, 3) := dd_S_contrastWanted 64 (100, .invokestatic 142, 3) rfl
theorem d_S_contrastWanted_103 : decode b_S_contrastWanted 103 = .ok (.ldc2_w 151, 3) := dd_S_contrastWanted 65 (103, .ldc2_w 151, 3) rfl
theorem d_S_contrastWanted_106 : decode b_S_contrastWanted 106 = .ok (.ldc2_w 153, 3) := dd_S_contrastWanted 66 (106, .ldc2_w 153, 3) rfl
theorem d_S_contrastWanted_109 : decode b_S_contrastWanted 109 = .ok (.invokestatic 155, 3) := dd_S_contrastWanted 67 (109, .invokestatic 155, 3) rfl
theorem d_S_contrastWanted_112 : decode b_S_contrastWanted 112 = .ok (.l2i, 1) := dd_S_contrastWanted 68 (112, .l2i, 1) rfl
theorem d_S_contrastWanted_113 : decode b_S_contrastWanted 113 = .ok (.ireturn, 1) := dd_S_contrastWanted 69 (113, .ireturn, 1) rfl
def tb_V_init : List (Nat × Instr × Nat) := [(0, .aload_n 0, 1), (1, .invokespecial 1, 3), (4, .aload_n 0, 1), (5, .aload_n 1, 1), (6, .putfield 7, 3), (9, .return_, 1)]
theorem dd_V_init : ∀ (i : Nat) (q : Nat × Instr × Nat), tb_V_init[i]? = some q → decode b_V_init q.1 = .ok (q.2.1, q.2.2) := z_tab (by decide +kernel)
theorem d_V_init_0 : decode b_V_init 0 = .ok (.aload_n 0, 1) := dd_V_init 0 (0, .aload_n 0, 1) rfl
theorem d_V_init_1 : decode b_V_init 1 = .ok (.invokespecial 1, 3) := dd_V_init 1 (1, .invokespecial 1, 3) rfl
theorem d_V_init_4 : decode b_V_init 4 = .ok (.aload_n 0, 1) := dd_V_init 2 (4, .aload_n 0, 1) rfl
theorem d_V_init_5 : decode b_V_init 5 = .ok (.aload_n 1, 1) := dd_V_init 3 (5, .aload_n 1, 1) rfl
theorem d_V_init_6 : decode b_V_init 6 = .ok (.putfield 7, 3) := dd_V_init 4 (6, .putfield 7, 3) rfl
theorem d_V_init_9 : decode b_V_init 9 = .ok (.return_, 1) := dd_V_init 5 (9, .return_, 1) rfl
def tb_V_aim : List (Nat × Instr × Nat) := [(0, .iconst 2, 1), (1, .aload_n 0, 1), (2, .getfield 7, 3), (5, .getfield 13, 3), (8, .imul, 1), (9, .iload_n 1, 1), (10, .invokestatic 19, 3), (13, .istore 4, 2), (15, .aload_n 0, 1), (16, .iload 4, 2), (18, .iconst 1, 1), (19, .if_icmp .ge 7, 3), (22, .iconst 0, 1), (23, .goto 11, 3), (26, .iload_n 2, 1), (27, .iload 4, 2), (29, .irem, 1), (30, .iload_n 1, 1), (31, .iconst 2, 1), (32, .idiv, 1), (33, .imul, 1), (34, .putfield 25, 3), (37, .aload_n 0, 1), (38, .iload 4, 2), (40, .iconst 1, 1), (41, .if_icmp .ge 7, 3), (44, .iconst 0, 1), (45, .goto 11, 3), (48, .iload_n 2, 1), (49, .iload 4, 2), (51, .idiv, 1), (52, .iload_n 1, 1), (53, .iconst 2, 1), (54, .idiv, 1), (55, .imul, 1), (56, .putfield 28, 3), (59, .aload_n 0, 1), (60, .aload_n 0, 1), (61, .iload_n 1, 1), (62, .iload_n 3, 1), (63, .iconst 0, 1), (64, .iconst 0, 1), (65, .invokevirtual 31, 3), (68, .putfield 35, 3), (71, .aload_n 0, 1), (72, .aload_n 0, 1), (73, .iload_n 1, 1), (74, .iload_n 3, 1), (75, .iconst 1, 1), (76, .iconst 0, 1), (77, .invokevirtual 31, 3), (80, .aload_n 0, 1), (81, .getfield 35, 3), (84, .isub, 1), (85, .putfield 38, 3), (88, .aload_n 0, 1), (89, .aload_n 0, 1), (90, .iload_n 1, 1), (91, .iload_n 3, 1), (92, .iconst 0, 1), (93, .iconst 1, 1), (94, .invokevirtual 31, 3), (97, .aload_n 0, 1), (98, .getfield 35, 3), (101, .isub, 1), (102, .putfield 41, 3), (105, .return_, 1)]
theorem dd_V_aim : ∀ (i : Nat) (q : Nat × Instr × Nat), tb_V_aim[i]? = some q → decode b_V_aim q.1 = .ok (q.2.1, q.2.2) := z_tab (by decide +kernel)
theorem d_V_aim_0 : decode b_V_aim 0 = .ok (.iconst 2, 1) := dd_V_aim 0 (0, .iconst 2, 1) rfl
theorem d_V_aim_1 : decode b_V_aim 1 = .ok (.aload_n 0, 1) := dd_V_aim 1 (1, .aload_n 0, 1) rfl
theorem d_V_aim_2 : decode b_V_aim 2 = .ok (.getfield 7, 3) := dd_V_aim 2 (2, .getfield 7, 3) rfl
theorem d_V_aim_5 : decode b_V_aim 5 = .ok (.getfield 13, 3) := dd_V_aim 3 (5, .getfield 13, 3) rfl
theorem d_V_aim_8 : decode b_V_aim 8 = .ok (.imul, 1) := dd_V_aim 4 (8, .imul, 1) rfl
theorem d_V_aim_9 : decode b_V_aim 9 = .ok (.iload_n 1, 1) := dd_V_aim 5 (9, .iload_n 1, 1) rfl
theorem d_V_aim_10 : decode b_V_aim 10 = .ok (.invokestatic 19, 3) := dd_V_aim 6 (10, .invokestatic 19, 3) rfl
theorem d_V_aim_13 : decode b_V_aim 13 = .ok (.istore 4, 2) := dd_V_aim 7 (13, .istore 4, 2) rfl
theorem d_V_aim_15 : decode b_V_aim 15 = .ok (.aload_n 0, 1) := dd_V_aim 8 (15, .aload_n 0, 1) rfl
theorem d_V_aim_16 : decode b_V_aim 16 = .ok (.iload 4, 2) := dd_V_aim 9 (16, .iload 4, 2) rfl
theorem d_V_aim_18 : decode b_V_aim 18 = .ok (.iconst 1, 1) := dd_V_aim 10 (18, .iconst 1, 1) rfl
theorem d_V_aim_19 : decode b_V_aim 19 = .ok (.if_icmp .ge 7, 3) := dd_V_aim 11 (19, .if_icmp .ge 7, 3) rfl
theorem d_V_aim_22 : decode b_V_aim 22 = .ok (.iconst 0, 1) := dd_V_aim 12 (22, .iconst 0, 1) rfl
theorem d_V_aim_23 : decode b_V_aim 23 = .ok (.goto 11, 3) := dd_V_aim 13 (23, .goto 11, 3) rfl
theorem d_V_aim_26 : decode b_V_aim 26 = .ok (.iload_n 2, 1) := dd_V_aim 14 (26, .iload_n 2, 1) rfl
theorem d_V_aim_27 : decode b_V_aim 27 = .ok (.iload 4, 2) := dd_V_aim 15 (27, .iload 4, 2) rfl
theorem d_V_aim_29 : decode b_V_aim 29 = .ok (.irem, 1) := dd_V_aim 16 (29, .irem, 1) rfl
theorem d_V_aim_30 : decode b_V_aim 30 = .ok (.iload_n 1, 1) := dd_V_aim 17 (30, .iload_n 1, 1) rfl
theorem d_V_aim_31 : decode b_V_aim 31 = .ok (.iconst 2, 1) := dd_V_aim 18 (31, .iconst 2, 1) rfl
theorem d_V_aim_32 : decode b_V_aim 32 = .ok (.idiv, 1) := dd_V_aim 19 (32, .idiv, 1) rfl
theorem d_V_aim_33 : decode b_V_aim 33 = .ok (.imul, 1) := dd_V_aim 20 (33, .imul, 1) rfl
theorem d_V_aim_34 : decode b_V_aim 34 = .ok (.putfield 25, 3) := dd_V_aim 21 (34, .putfield 25, 3) rfl
theorem d_V_aim_37 : decode b_V_aim 37 = .ok (.aload_n 0, 1) := dd_V_aim 22 (37, .aload_n 0, 1) rfl
theorem d_V_aim_38 : decode b_V_aim 38 = .ok (.iload 4, 2) := dd_V_aim 23 (38, .iload 4, 2) rfl
theorem d_V_aim_40 : decode b_V_aim 40 = .ok (.iconst 1, 1) := dd_V_aim 24 (40, .iconst 1, 1) rfl
theorem d_V_aim_41 : decode b_V_aim 41 = .ok (.if_icmp .ge 7, 3) := dd_V_aim 25 (41, .if_icmp .ge 7, 3) rfl
theorem d_V_aim_44 : decode b_V_aim 44 = .ok (.iconst 0, 1) := dd_V_aim 26 (44, .iconst 0, 1) rfl
theorem d_V_aim_45 : decode b_V_aim 45 = .ok (.goto 11, 3) := dd_V_aim 27 (45, .goto 11, 3) rfl
theorem d_V_aim_48 : decode b_V_aim 48 = .ok (.iload_n 2, 1) := dd_V_aim 28 (48, .iload_n 2, 1) rfl
theorem d_V_aim_49 : decode b_V_aim 49 = .ok (.iload 4, 2) := dd_V_aim 29 (49, .iload 4, 2) rfl
theorem d_V_aim_51 : decode b_V_aim 51 = .ok (.idiv, 1) := dd_V_aim 30 (51, .idiv, 1) rfl
theorem d_V_aim_52 : decode b_V_aim 52 = .ok (.iload_n 1, 1) := dd_V_aim 31 (52, .iload_n 1, 1) rfl
theorem d_V_aim_53 : decode b_V_aim 53 = .ok (.iconst 2, 1) := dd_V_aim 32 (53, .iconst 2, 1) rfl
theorem d_V_aim_54 : decode b_V_aim 54 = .ok (.idiv, 1) := dd_V_aim 33 (54, .idiv, 1) rfl
theorem d_V_aim_55 : decode b_V_aim 55 = .ok (.imul, 1) := dd_V_aim 34 (55, .imul, 1) rfl
theorem d_V_aim_56 : decode b_V_aim 56 = .ok (.putfield 28, 3) := dd_V_aim 35 (56, .putfield 28, 3) rfl
theorem d_V_aim_59 : decode b_V_aim 59 = .ok (.aload_n 0, 1) := dd_V_aim 36 (59, .aload_n 0, 1) rfl
theorem d_V_aim_60 : decode b_V_aim 60 = .ok (.aload_n 0, 1) := dd_V_aim 37 (60, .aload_n 0, 1) rfl
theorem d_V_aim_61 : decode b_V_aim 61 = .ok (.iload_n 1, 1) := dd_V_aim 38 (61, .iload_n 1, 1) rfl
theorem d_V_aim_62 : decode b_V_aim 62 = .ok (.iload_n 3, 1) := dd_V_aim 39 (62, .iload_n 3, 1) rfl
theorem d_V_aim_63 : decode b_V_aim 63 = .ok (.iconst 0, 1) := dd_V_aim 40 (63, .iconst 0, 1) rfl
theorem d_V_aim_64 : decode b_V_aim 64 = .ok (.iconst 0, 1) := dd_V_aim 41 (64, .iconst 0, 1) rfl
theorem d_V_aim_65 : decode b_V_aim 65 = .ok (.invokevirtual 31, 3) := dd_V_aim 42 (65, .invokevirtual 31, 3) rfl
theorem d_V_aim_68 : decode b_V_aim 68 = .ok (.putfield 35, 3) := dd_V_aim 43 (68, .putfield 35, 3) rfl
theorem d_V_aim_71 : decode b_V_aim 71 = .ok (.aload_n 0, 1) := dd_V_aim 44 (71, .aload_n 0, 1) rfl
theorem d_V_aim_72 : decode b_V_aim 72 = .ok (.aload_n 0, 1) := dd_V_aim 45 (72, .aload_n 0, 1) rfl
theorem d_V_aim_73 : decode b_V_aim 73 = .ok (.iload_n 1, 1) := dd_V_aim 46 (73, .iload_n 1, 1) rfl
theorem d_V_aim_74 : decode b_V_aim 74 = .ok (.iload_n 3, 1) := dd_V_aim 47 (74, .iload_n 3, 1) rfl
theorem d_V_aim_75 : decode b_V_aim 75 = .ok (.iconst 1, 1) := dd_V_aim 48 (75, .iconst 1, 1) rfl
theorem d_V_aim_76 : decode b_V_aim 76 = .ok (.iconst 0, 1) := dd_V_aim 49 (76, .iconst 0, 1) rfl
theorem d_V_aim_77 : decode b_V_aim 77 = .ok (.invokevirtual 31, 3) := dd_V_aim 50 (77, .invokevirtual 31, 3) rfl
theorem d_V_aim_80 : decode b_V_aim 80 = .ok (.aload_n 0, 1) := dd_V_aim 51 (80, .aload_n 0, 1) rfl
theorem d_V_aim_81 : decode b_V_aim 81 = .ok (.getfield 35, 3) := dd_V_aim 52 (81, .getfield 35, 3) rfl
theorem d_V_aim_84 : decode b_V_aim 84 = .ok (.isub, 1) := dd_V_aim 53 (84, .isub, 1) rfl
theorem d_V_aim_85 : decode b_V_aim 85 = .ok (.putfield 38, 3) := dd_V_aim 54 (85, .putfield 38, 3) rfl
theorem d_V_aim_88 : decode b_V_aim 88 = .ok (.aload_n 0, 1) := dd_V_aim 55 (88, .aload_n 0, 1) rfl
theorem d_V_aim_89 : decode b_V_aim 89 = .ok (.aload_n 0, 1) := dd_V_aim 56 (89, .aload_n 0, 1) rfl
theorem d_V_aim_90 : decode b_V_aim 90 = .ok (.iload_n 1, 1) := dd_V_aim 57 (90, .iload_n 1, 1) rfl
theorem d_V_aim_91 : decode b_V_aim 91 = .ok (.iload_n 3, 1) := dd_V_aim 58 (91, .iload_n 3, 1) rfl
theorem d_V_aim_92 : decode b_V_aim 92 = .ok (.iconst 0, 1) := dd_V_aim 59 (92, .iconst 0, 1) rfl
theorem d_V_aim_93 : decode b_V_aim 93 = .ok (.iconst 1, 1) := dd_V_aim 60 (93, .iconst 1, 1) rfl
theorem d_V_aim_94 : decode b_V_aim 94 = .ok (.invokevirtual 31, 3) := dd_V_aim 61 (94, .invokevirtual 31, 3) rfl
theorem d_V_aim_97 : decode b_V_aim 97 = .ok (.aload_n 0, 1) := dd_V_aim 62 (97, .aload_n 0, 1) rfl
theorem d_V_aim_98 : decode b_V_aim 98 = .ok (.getfield 35, 3) := dd_V_aim 63 (98, .getfield 35, 3) rfl
theorem d_V_aim_101 : decode b_V_aim 101 = .ok (.isub, 1) := dd_V_aim 64 (101, .isub, 1) rfl
theorem d_V_aim_102 : decode b_V_aim 102 = .ok (.putfield 41, 3) := dd_V_aim 65 (102, .putfield 41, 3) rfl
theorem d_V_aim_105 : decode b_V_aim 105 = .ok (.return_, 1) := dd_V_aim 66 (105, .return_, 1) rfl
