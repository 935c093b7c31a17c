def tb_M_brought : List (Nat × Instr × Nat) := [(0, .lload_n 0, 1), (1, .iload_n 2, 1), (2, .i2l, 1), (3, .lcmp, 1), (4, .ifCond .ge 7, 3), (7, .iload_n 2, 1), (8, .goto 16, 3), (11, .lload_n 0, 1), (12, .iload_n 3, 1), (13, .i2l, 1), (14, .lcmp, 1), (15, .ifCond .le 7, 3), (18, .iload_n 3, 1), (19, .goto 5, 3), (22, .lload_n 0, 1), (23, .l2i, 1), (24, .ireturn, 1)]
theorem dd_M_brought : ∀ (i : Nat) (q : Nat × Instr × Nat), tb_M_brought[i]? = some q → decode b_M_brought q.1 = .ok (q.2.1, q.2.2) := z_tab (by decide +kernel)
theorem d_M_brought_0 : decode b_M_brought 0 = .ok (.lload_n 0, 1) := dd_M_brought 0 (0, .lload_n 0, 1) rfl
theorem d_M_brought_1 : decode b_M_brought 1 = .ok (.iload_n 2, 1) := dd_M_brought 1 (1, .iload_n 2, 1) rfl
theorem d_M_brought_2 : decode b_M_brought 2 = .ok (.i2l, 1) := dd_M_brought 2 (2, .i2l, 1) rfl
theorem d_M_brought_3 : decode b_M_brought 3 = .ok (.lcmp, 1) := dd_M_brought 3 (3, .lcmp, 1) rfl
theorem d_M_brought_4 : decode b_M_brought 4 = .ok (.ifCond .ge 7, 3) := dd_M_brought 4 (4, .ifCond .ge 7, 3) rfl
theorem d_M_brought_7 : decode b_M_brought 7 = .ok (.iload_n 2, 1) := dd_M_brought 5 (7, .iload_n 2, 1) rfl
theorem d_M_brought_8 : decode b_M_brought 8 = .ok (.goto 16, 3) := dd_M_brought 6 (8, .goto 16, 3) rfl
theorem d_M_brought_11 : decode b_M_brought 11 = .ok (.lload_n 0, 1) := dd_M_brought 7 (11, .lload_n 0, 1) rfl
theorem d_M_brought_12 : decode b_M_brought 12 = .ok (.iload_n 3, 1) := dd_M_brought 8 (12, .iload_n 3, 1) rfl
theorem d_M_brought_13 : decode b_M_brought 13 = .ok (.i2l, 1) := dd_M_brought 9 (13, .i2l, 1) rfl
theorem d_M_brought_14 : decode b_M_brought 14 = .ok (.lcmp, 1) := dd_M_brought 10 (14, .lcmp, 1) rfl
theorem d_M_brought_15 : decode b_M_brought 15 = .ok (.ifCond .le 7, 3) := dd_M_brought 11 (15, .ifCond .le 7, 3) rfl
theorem d_M_brought_18 : decode b_M_brought 18 = .ok (.iload_n 3, 1) := dd_M_brought 12 (18, .iload_n 3, 1) rfl
theorem d_M_brought_19 : decode b_M_brought 19 = .ok (.goto 5, 3) := dd_M_brought 13 (19, .goto 5, 3) rfl
theorem d_M_brought_22 : decode b_M_brought 22 = .ok (.lload_n 0, 1) := dd_M_brought 14 (22, .lload_n 0, 1) rfl
theorem d_M_brought_23 : decode b_M_brought 23 = .ok (.l2i, 1) := dd_M_brought 15 (23, .l2i, 1) rfl
theorem d_M_brought_24 : decode b_M_brought 24 = .ok (.ireturn, 1) := dd_M_brought 16 (24, .ireturn, 1) rfl
def tb_M_nearest : List (Nat × Instr × Nat) := [(0, .ldc2_w 53, 3), (3, .lload_n 0, 1), (4, .lmul, 1), (5, .lload_n 2, 1), (6, .ladd, 1), (7, .lstore 4, 2), (9, .lload 4, 2), (11, .ldc2_w 53, 3), (14, .lload_n 2, 1), (15, .lmul, 1), (16, .ldiv, 1), (17, .lstore 6, 2), (19, .lload 4, 2), (21, .lconst 0, 1), (22, .lcmp, 1), (23, .ifCond .ge 24, 3), (26, .lload 6, 2), (28, .ldc2_w 53, 3), (31, .lmul, 1), (32, .lload_n 2, 1), (33, .lmul, 1), (34, .lload 4, 2), (36, .lcmp, 1), (37, .ifCond .eq 10, 3), (40, .lload 6, 2), (42, .lconst 1, 1), (43, .lsub, 1), (44, .goto 5, 3), (47, .lload 6, 2), (49, .lreturn, 1)]
theorem dd_M_nearest : ∀ (i : Nat) (q : Nat × Instr × Nat), tb_M_nearest[i]? = some q → decode b_M_nearest q.1 = .ok (q.2.1, q.2.2) := z_tab (by decide +kernel)
theorem d_M_nearest_0 : decode b_M_nearest 0 = .ok (.ldc2_w 53, 3) := dd_M_nearest 0 (0, .ldc2_w 53, 3) rfl
theorem d_M_nearest_3 : decode b_M_nearest 3 = .ok (.lload_n 0, 1) := dd_M_nearest 1 (3, .lload_n 0, 1) rfl
theorem d_M_nearest_4 : decode b_M_nearest 4 = .ok (.lmul, 1) := dd_M_nearest 2 (4, .lmul, 1) rfl
theorem d_M_nearest_5 : decode b_M_nearest 5 = .ok (.lload_n 2, 1) := dd_M_nearest 3 (5, .lload_n 2, 1) rfl
theorem d_M_nearest_6 : decode b_M_nearest 6 = .ok (.ladd, 1) := dd_M_nearest 4 (6, .ladd, 1) rfl
theorem d_M_nearest_7 : decode b_M_nearest 7 = .ok (.lstore 4, 2) := dd_M_nearest 5 (7, .lstore 4, 2) rfl
theorem d_M_nearest_9 : decode b_M_nearest 9 = .ok (.lload 4, 2) := dd_M_nearest 6 (9, .lload 4, 2) rfl
theorem d_M_nearest_11 : decode b_M_nearest 11 = .ok (.ldc2_w 53, 3) := dd_M_nearest 7 (11, .ldc2_w 53, 3) rfl
theorem d_M_nearest_14 : decode b_M_nearest 14 = .ok (.lload_n 2, 1) := dd_M_nearest 8 (14, .lload_n 2, 1) rfl
theorem d_M_nearest_15 : decode b_M_nearest 15 = .ok (.lmul, 1) := dd_M_nearest 9 (15, .lmul, 1) rfl
theorem d_M_nearest_16 : decode b_M_nearest 16 = .ok (.ldiv, 1) := dd_M_nearest 10 (16, .ldiv, 1) rfl
theorem d_M_nearest_17 : decode b_M_nearest 17 = .ok (.lstore 6, 2) := dd_M_nearest 11 (17, .lstore 6, 2) rfl
theorem d_M_nearest_19 : decode b_M_nearest 19 = .ok (.lload 4, 2) := dd_M_nearest 12 (19, .lload 4, 2) rfl
theorem d_M_nearest_21 : decode b_M_nearest 21 = .ok (.lconst 0, 1) := dd_M_nearest 13 (21, .lconst 0, 1) rfl
theorem d_M_nearest_22 : decode b_M_nearest 22 = .ok (.lcmp, 1) := dd_M_nearest 14 (22, .lcmp, 1) rfl
theorem d_M_nearest_23 : decode b_M_nearest 23 = .ok (.ifCond .ge 24, 3) := dd_M_nearest 15 (23, .ifCond .ge 24, 3) rfl
theorem d_M_nearest_26 : decode b_M_nearest 26 = .ok (.lload 6, 2) := dd_M_nearest 16 (26, .lload 6, 2) rfl
theorem d_M_nearest_28 : decode b_M_nearest 28 = .ok (.ldc2_w 53, 3) := dd_M_nearest 17 (28, .ldc2_w 53, 3) rfl
theorem d_M_nearest_31 : decode b_M_nearest 31 = .ok (.lmul, 1) := dd_M_nearest 18 (31, .lmul, 1) rfl
theorem d_M_nearest_32 : decode b_M_nearest 32 = .ok (.lload_n 2, 1) := dd_M_nearest 19 (32, .lload_n 2, 1) rfl
theorem d_M_nearest_33 : decode b_M_nearest 33 = .ok (.lmul, 1) := dd_M_nearest 20 (33, .lmul, 1) rfl
theorem d_M_nearest_34 : decode b_M_nearest 34 = .ok (.lload 4, 2) := dd_M_nearest 21 (34, .lload 4, 2) rfl
theorem d_M_nearest_36 : decode b_M_nearest 36 = .ok (.lcmp, 1) := dd_M_nearest 22 (36, .lcmp, 1) rfl
theorem d_M_nearest_37 : decode b_M_nearest 37 = .ok (.ifCond .eq 10, 3) := dd_M_nearest 23 (37, .ifCond .eq 10, 3) rfl
theorem d_M_nearest_40 : decode b_M_nearest 40 = .ok (.lload 6, 2) := dd_M_nearest 24 (40, .lload 6, 2) rfl
theorem d_M_nearest_42 : decode b_M_nearest 42 = .ok (.lconst 1, 1) := dd_M_nearest 25 (42, .lconst 1, 1) rfl
theorem d_M_nearest_43 : decode b_M_nearest 43 = .ok (.lsub, 1) := dd_M_nearest 26 (43, .lsub, 1) rfl
theorem d_M_nearest_44 : decode b_M_nearest 44 = .ok (.goto 5, 3) := dd_M_nearest 27 (44, .goto 5, 3) rfl
theorem d_M_nearest_47 : decode b_M_nearest 47 = .ok (.lload 6, 2) := dd_M_nearest 28 (47, .lload 6, 2) rfl
theorem d_M_nearest_49 : decode b_M_nearest 49 = .ok (.lreturn, 1) := dd_M_nearest 29 (49, .lreturn, 1) rfl
def tb_M_isSize : List (Nat × Instr × Nat) := [(0, .iload_n 0, 1), (1, .iconst 2, 1), (2, .if_icmp .eq 20, 3), (5, .iload_n 0, 1), (6, .iconst 4, 1), (7, .if_icmp .eq 15, 3), (10, .iload_n 0, 1), (11, .bipush 8, 2), (13, .if_icmp .eq 9, 3), (16, .iload_n 0, 1), (17, .bipush 16, 2), (19, .if_icmp .ne 7, 3), (22, .iconst 1, 1), (23, .goto 4, 3), (26, .iconst 0, 1), (27, .ireturn, 1)]
theorem dd_M_isSize : ∀ (i : Nat) (q : Nat × Instr × Nat), tb_M_isSize[i]? = some q → decode b_M_isSize q.1 = .ok (q.2.1, q.2.2) := z_tab (by decide +kernel)
theorem d_M_isSize_0 : decode b_M_isSize 0 = .ok (.iload_n 0, 1) := dd_M_isSize 0 (0, .iload_n 0, 1) rfl
theorem d_M_isSize_1 : decode b_M_isSize 1 = .ok (.iconst 2, 1) := dd_M_isSize 1 (1, .iconst 2, 1) rfl
theorem d_M_isSize_2 : decode b_M_isSize 2 = .ok (.if_icmp .eq 20, 3) := dd_M_isSize 2 (2, .if_icmp .eq 20, 3) rfl
theorem d_M_isSize_5 : decode b_M_isSize 5 = .ok (.iload_n 0, 1) := dd_M_isSize 3 (5, .iload_n 0, 1) rfl
theorem d_M_isSize_6 : decode b_M_isSize 6 = .ok (.iconst 4, 1) := dd_M_isSize 4 (6, .iconst 4, 1) rfl
theorem d_M_isSize_7 : decode b_M_isSize 7 = .ok (.if_icmp .eq 15, 3) := dd_M_isSize 5 (7, .if_icmp .eq 15, 3) rfl
theorem d_M_isSize_10 : decode b_M_isSize 10 = .ok (.iload_n 0, 1) := dd_M_isSize 6 (10, .iload_n 0, 1) rfl
theorem d_M_isSize_11 : decode b_M_isSize 11 = .ok (.bipush 8, 2) := dd_M_isSize 7 (11, .bipush 8, 2) rfl
theorem d_M_isSize_13 : decode b_M_isSize 13 = .ok (.if_icmp .eq 9, 3) := dd_M_isSize 8 (13, .if_icmp .eq 9, 3) rfl
theorem d_M_isSize_16 : decode b_M_isSize 16 = .ok (.iload_n 0, 1) := dd_M_isSize 9 (16, .iload_n 0, 1) rfl
theorem d_M_isSize_17 : decode b_M_isSize 17 = .ok (.bipush 16, 2) := dd_M_isSize 10 (17, .bipush 16, 2) rfl
theorem d_M_isSize_19 : decode b_M_isSize 19 = .ok (.if_icmp .ne 7, 3) := dd_M_isSize 11 (19, .if_icmp .ne 7, 3) rfl
theorem d_M_isSize_22 : decode b_M_isSize 22 = .ok (.iconst 1, 1) := dd_M_isSize 12 (22, .iconst 1, 1) rfl
theorem d_M_isSize_23 : decode b_M_isSize 23 = .ok (.goto 4, 3) := dd_M_isSize 13 (23, .goto 4, 3) rfl
theorem d_M_isSize_26 : decode b_M_isSize 26 = .ok (.iconst 0, 1) := dd_M_isSize 14 (26, .iconst 0, 1) rfl
theorem d_M_isSize_27 : decode b_M_isSize 27 = .ok (.ireturn, 1) := dd_M_isSize 15 (27, .ireturn, 1) rfl
def tb_M_isPlace : List (Nat × Instr × Nat) := [(0, .iload_n 1, 1), (1, .i2l, 1), (2, .lconst 0, 1), (3, .aload_n 0, 1), (4, .getfield 46, 3), (7, .iconst 1, 1), (8, .isub, 1), (9, .i2l, 1), (10, .invokestatic 55, 3), (13, .ifCond .eq 23, 3), (16, .iload_n 2, 1), (17, .i2l, 1), (18, .lconst 0, 1), (19, .aload_n 0, 1), (20, .getfield 46, 3), (23, .iconst 1, 1), (24, .isub, 1), (25, .i2l, 1), (26, .invokestatic 55, 3), (29, .ifCond .eq 7, 3), (32, .iconst 1, 1), (33, .goto 4, 3), (36, .iconst 0, 1), (37, .ireturn, 1)]
theorem dd_M_isPlace : ∀ (i : Nat) (q : Nat × Instr × Nat), tb_M_isPlace[i]? = some q → decode b_M_isPlace q.1 = .ok (q.2.1, q.2.2) := z_tab (by decide +kernel)
theorem d_M_isPlace_0 : decode b_M_isPlace 0 = .ok (.iload_n 1, 1) := dd_M_isPlace 0 (0, .iload_n 1, 1) rfl
theorem d_M_isPlace_1 : decode b_M_isPlace 1 = .ok (.i2l, 1) := dd_M_isPlace 1 (1, .i2l, 1) rfl
theorem d_M_isPlace_2 : decode b_M_isPlace 2 = .ok (.lconst 0, 1) := dd_M_isPlace 2 (2, .lconst 0, 1) rfl
theorem d_M_isPlace_3 : decode b_M_isPlace 3 = .ok (.aload_n 0, 1) := dd_M_isPlace 3 (3, .aload_n 0, 1) rfl
theorem d_M_isPlace_4 : decode b_M_isPlace 4 = .ok (.getfield 46, 3) := dd_M_isPlace 4 (4, .getfield 46, 3) rfl
theorem d_M_isPlace_7 : decode b_M_isPlace 7 = .ok (.iconst 1, 1) := dd_M_isPlace 5 (7, .iconst 1, 1) rfl
theorem d_M_isPlace_8 : decode b_M_isPlace 8 = .ok (.isub, 1) := dd_M_isPlace 6 (8, .isub, 1) rfl
theorem d_M_isPlace_9 : decode b_M_isPlace 9 = .ok (.i2l, 1) := dd_M_isPlace 7 (9, .i2l, 1) rfl
theorem d_M_isPlace_10 : decode b_M_isPlace 10 = .ok (.invokestatic 55, 3) := dd_M_isPlace 8 (10, .invokestatic 55, 3) rfl
theorem d_M_isPlace_13 : decode b_M_isPlace 13 = .ok (.ifCond .eq 23, 3) := dd_M_isPlace 9 (13, .ifCond .eq 23, 3) rfl
theorem d_M_isPlace_16 : decode b_M_isPlace 16 = .ok (.iload_n 2, 1) := dd_M_isPlace 10 (16, .iload_n 2, 1) rfl
theorem d_M_isPlace_17 : decode b_M_isPlace 17 = .ok (.i2l, 1) := dd_M_isPlace 11 (17, .i2l, 1) rfl
theorem d_M_isPlace_18 : decode b_M_isPlace 18 = .ok (.lconst 0, 1) := dd_M_isPlace 12 (18, .lconst 0, 1) rfl
theorem d_M_isPlace_19 : decode b_M_isPlace 19 = .ok (.aload_n 0, 1) := dd_M_isPlace 13 (19, .aload_n 0, 1) rfl
theorem d_M_isPlace_20 : decode b_M_isPlace 20 = .ok (.getfield 46, 3) := dd_M_isPlace 14 (20, .getfield 46, 3) rfl
theorem d_M_isPlace_23 : decode b_M_isPlace 23 = .ok (.iconst 1, 1) := dd_M_isPlace 15 (23, .iconst 1, 1) rfl
theorem d_M_isPlace_24 : decode b_M_isPlace 24 = .ok (.isub, 1) := dd_M_isPlace 16 (24, .isub, 1) rfl
theorem d_M_isPlace_25 : decode b_M_isPlace 25 = .ok (.i2l, 1) := dd_M_isPlace 17 (25, .i2l, 1) rfl
theorem d_M_isPlace_26 : decode b_M_isPlace 26 = .ok (.invokestatic 55, 3) := dd_M_isPlace 18 (26, .invokestatic 55, 3) rfl
theorem d_M_isPlace_29 : decode b_M_isPlace 29 = .ok (.ifCond .eq 7, 3) := dd_M_isPlace 19 (29, .ifCond .eq 7, 3) rfl
theorem d_M_isPlace_32 : decode b_M_isPlace 32 = .ok (.iconst 1, 1) := dd_M_isPlace 20 (32, .iconst 1, 1) rfl
theorem d_M_isPlace_33 : decode b_M_isPlace 33 = .ok (.goto 4, 3) := dd_M_isPlace 21 (33, .goto 4, 3) rfl
theorem d_M_isPlace_36 : decode b_M_isPlace 36 = .ok (.iconst 0, 1) := dd_M_isPlace 22 (36, .iconst 0, 1) rfl
theorem d_M_isPlace_37 : decode b_M_isPlace 37 = .ok (.ireturn, 1) := dd_M_isPlace 23 (37, .ireturn, 1) rfl
def tb_M_put : List (Nat × Instr × Nat) := [(0, .aload_n 0, 1), (1, .aload_n 0, 1), (2, .iload_n 1, 1), (3, .iload_n 2, 1), (4, .invokevirtual 59, 3), (7, .ifCond .ne 7, 3), (10, .iconst 1, 1), (11, .goto 20, 3), (14, .iload_n 3, 1), (15, .i2l, 1), (16, .lconst 0, 1), (17, .ldc2_w 63, 3), (20, .invokestatic 55, 3), (23, .ifCond .ne 7, 3), (26, .iconst 2, 1), (27, .goto 4, 3), (30, .iconst 0, 1), (31, .putfield 50, 3), (34, .aload_n 0, 1), (35, .getfield 50, 3), (38, .ifCond .le 5, 3), (41, .iconst 0, 1), (42, .ireturn, 1), (43, .aload_n 0, 1), (44, .getfield 7, 3), (47, .aload_n 0, 1), (48, .getfield 46, 3), (51, .iload_n 2, 1), (52, .imul, 1), (53, .iload_n 1, 1), (54, .iadd, 1), (55, .iaload, 1), (56, .istore 4, 2), (58, .aload_n 0, 1), (59, .getfield 7, 3), (62, .aload_n 0, 1), (63, .getfield 46, 3), (66, .iload_n 2, 1), (67, .imul, 1), (68, .iload_n 1, 1), (69, .iadd, 1), (70, .iload_n 3, 1), (71, .iastore, 1), (72, .iload 4, 2), (74, .ireturn, 1)]
theorem dd_M_put : ∀ (i : Nat) (q : Nat × Instr × Nat), tb_M_put[i]? = some q → decode b_M_put q.1 = .ok (q.2.1, q.2.2) := z_tab (by decide +kernel)
theorem d_M_put_0 : decode b_M_put 0 = .ok (.aload_n 0, 1) := dd_M_put 0 (0, .aload_n 0, 1) rfl
theorem d_M_put_1 : decode b_M_put 1 = .ok (.aload_n 0, 1) := dd_M_put 1 (1, .aload_n 0, 1) rfl
theorem d_M_put_2 : decode b_M_put 2 = .ok (.iload_n 1, 1) := dd_M_put 2 (2, .iload_n 1, 1) rfl
theorem d_M_put_3 : decode b_M_put 3 = .ok (.iload_n 2, 1) := dd_M_put 3 (3, .iload_n 2, 1) rfl
theorem d_M_put_4 : decode b_M_put 4 = .ok (.invokevirtual 59, 3) := dd_M_put 4 (4, .invokevirtual 59, 3) rfl
theorem d_M_put_7 : decode b_M_put 7 = .ok (.ifCond .ne 7, 3) := dd_M_put 5 (7, .ifCond .ne 7, 3) rfl
theorem d_M_put_10 : decode b_M_put 10 = .ok (.iconst 1, 1) := dd_M_put 6 (10, .iconst 1, 1) rfl
theorem d_M_put_11 : decode b_M_put 11 = .ok (.goto 20, 3) := dd_M_put 7 (11, .goto 20, 3) rfl
theorem d_M_put_14 : decode b_M_put 14 = .ok (.iload_n 3, 1) := dd_M_put 8 (14, .iload_n 3, 1) rfl
theorem d_M_put_15 : decode b_M_put 15 = .ok (.i2l, 1) := dd_M_put 9 (15, .i2l, 1) rfl
theorem d_M_put_16 : decode b_M_put 16 = .ok (.lconst 0, 1) := dd_M_put 10 (16, .lconst 0, 1) rfl
theorem d_M_put_17 : decode b_M_put 17 = .ok (.ldc2_w 63, 3) := dd_M_put 11 (17, .ldc2_w 63, 3) rfl
theorem d_M_put_20 : decode b_M_put 20 = .ok (.invokestatic 55, 3) := dd_M_put 12 (20, .invokestatic 55, 3) rfl
theorem d_M_put_23 : decode b_M_put 23 = .ok (.ifCond .ne 7, 3) := dd_M_put 13 (23, .ifCond .ne 7, 3) rfl
theorem d_M_put_26 : decode b_M_put 26 = .ok (.iconst 2, 1) := dd_M_put 14 (26, .iconst 2, 1) rfl
theorem d_M_put_27 : decode b_M_put 27 = .ok (.goto 4, 3) := dd_M_put 15 (27, .goto 4, 3) rfl
theorem d_M_put_30 : decode b_M_put 30 = .ok (.iconst 0, 1) := dd_M_put 16 (30, .iconst 0, 1) rfl
theorem d_M_put_31 : decode b_M_put 31 = .ok (.putfield 50, 3) := dd_M_put 17 (31, .putfield 50, 3) rfl
theorem d_M_put_34 : decode b_M_put 34 = .ok (.aload_n 0, 1) := dd_M_put 18 (34, .aload_n 0, 1) rfl
theorem d_M_put_35 : decode b_M_put 35 = .ok (.getfield 50, 3) := dd_M_put 19 (35, .getfield 50, 3) rfl
theorem d_M_put_38 : decode b_M_put 38 = .ok (.ifCond .le 5, 3) := dd_M_put 20 (38, .ifCond .le 5, 3) rfl
theorem d_M_put_41 : decode b_M_put 41 = .ok (.iconst 0, 1) := dd_M_put 21 (41, .iconst 0, 1) rfl
theorem d_M_put_42 : decode b_M_put 42 = .ok (.ireturn, 1) := dd_M_put 22 (42, .ireturn, 1) rfl
theorem d_M_put_43 : decode b_M_put 43 = .ok (.aload_n 0, 1) := dd_M_put 23 (43, .aload_n 0, 1) rfl
theorem d_M_put_44 : decode b_M_put 44 = .ok (.getfield 7, 3) := dd_M_put 24 (44, .getfield 7, 3) rfl
theorem d_M_put_47 : decode b_M_put 47 = .ok (.aload_n 0, 1) := dd_M_put 25 (47, .aload_n 0, 1) rfl
theorem d_M_put_48 : decode b_M_put 48 = .ok (.getfield 46, 3) := dd_M_put 26 (48, .getfield 46, 3) rfl
theorem d_M_put_51 : decode b_M_put 51 = .ok (.iload_n 2, 1) := dd_M_put 27 (51, .iload_n 2, 1) rfl
theorem d_M_put_52 : decode b_M_put 52 = .ok (.imul, 1) := dd_M_put 28 (52, .imul, 1) rfl
theorem d_M_put_53 : decode b_M_put 53 = .ok (.iload_n 1, 1) := dd_M_put 29 (53, .iload_n 1, 1) rfl
theorem d_M_put_54 : decode b_M_put 54 = .ok (.iadd, 1) := dd_M_put 30 (54, .iadd, 1) rfl
theorem d_M_put_55 : decode b_M_put 55 = .ok (.iaload, 1) := dd_M_put 31 (55, .iaload, 1) rfl
theorem d_M_put_56 : decode b_M_put 56 = .ok (.istore 4, 2) := dd_M_put 32 (56, .istore 4, 2) rfl
theorem d_M_put_58 : decode b_M_put 58 = .ok (.aload_n 0, 1) := dd_M_put 33 (58, .aload_n 0, 1) rfl
theorem d_M_put_59 : decode b_M_put 59 = .ok (.getfield 7, 3) := dd_M_put 34 (59, .getfield 7, 3) rfl
theorem d_M_put_62 : decode b_M_put 62 = .ok (.aload_n 0, 1) := dd_M_put 35 (62, .aload_n 0, 1) rfl
theorem d_M_put_63 : decode b_M_put 63 = .ok (.getfield 46, 3) := dd_M_put 36 (63, .getfield 46, 3) rfl
theorem d_M_put_66 : decode b_M_put 66 = .ok (.iload_n 2, 1) := dd_M_put 37 (66, .iload_n 2, 1) rfl
theorem d_M_put_67 : decode b_M_put 67 = .ok (.imul, 1) := dd_M_put 38 (67, .imul, 1) rfl
theorem d_M_put_68 : decode b_M_put 68 = .ok (.iload_n 1, 1) := dd_M_put 39 (68, .iload_n 1, 1) rfl
theorem d_M_put_69 : decode b_M_put 69 = .ok (.iadd, 1) := dd_M_put 40 (69, .iadd, 1) rfl
theorem d_M_put_70 : decode b_M_put 70 = .ok (.iload_n 3, 1) := dd_M_put 41 (70, .iload_n 3, 1) rfl
theorem d_M_put_71 : decode b_M_put 71 = .ok (.iastore, 1) := dd_M_put 42 (71, .iastore, 1) rfl
theorem d_M_put_72 : decode b_M_put 72 = .ok (.iload 4, 2) := dd_M_put 43 (72, .iload 4, 2) rfl
theorem d_M_put_74 : decode b_M_put 74 = .ok (.ireturn, 1) := dd_M_put 44 (74, .ireturn, 1) rfl
def tb_M_paint : List (Nat × Instr × Nat) := [(0, .aload_n 0, 1), (1, .iconst 0, 1), (2, .putfield 50, 3), (5, .iconst 0, 1), (6, .istore 4, 2), (8, .iconst 0, 1), (9, .istore 5, 2), (11, .iload 5, 2), (13, .aload_n 0, 1), (14, .getfield 46, 3), (17, .aload_n 0, 1), (18, .getfield 46, 3), (21, .imul, 1), (22, .if_icmp .ge 79, 3), (25, .iload_n 2, 1), (26, .i2l, 1), (27, .iload 5, 2), (29, .aload_n 0, 1), (30, .getfield 46, 3), (33, .irem, 1), (34, .i2l, 1), (35, .lmul, 1), (36, .iload_n 3, 1), (37, .i2l, 1), (38, .iload 5, 2), (40, .aload_n 0, 1), (41, .getfield 46, 3), (44, .idiv, 1), (45, .i2l, 1), (46, .lmul, 1), (47, .ladd, 1), (48, .iload_n 1, 1), (49, .i2l, 1), (50, .ladd, 1), (51, .lstore 6, 2), (53, .lload 6, 2), (55, .iconst 0, 1), (56, .sipush 255, 3), (59, .invokestatic 65, 3), (62, .istore 8, 2), (64, .iload 4, 2), (66, .iload 8, 2), (68, .aload_n 0, 1), (69, .getfield 7, 3), (72, .iload 5, 2), (74, .iaload, 1), (75, .if_icmp .ne 7, 3), (78, .iconst 0, 1), (79, .goto 4, 3), (82, .iconst 1, 1), (83, .iadd, 1), (84, .istore 4, 2), (86, .aload_n 0, 1), (87, .getfield 7, 3), (90, .iload 5, 2), (92, .iload 8, 2), (94, .iastore, 1), (95, .iinc 5 1, 3), (98, .goto (-87), 3), (101, .iload 4, 2), (103, .ireturn, 1)]
theorem dd_M_paint : ∀ (i : Nat) (q : Nat × Instr × Nat), tb_M_paint[i]? = some q → decode b_M_paint q.1 = .ok (q.2.1, q.2.2) := z_tab (by decide +kernel)
theorem d_M_paint_0 : decode b_M_paint 0 = .ok (.aload_n 0, 1) := dd_M_paint 0 (0, .aload_n 0, 1) rfl
theorem d_M_paint_1 : decode b_M_paint 1 = .ok (.iconst 0, 1) := dd_M_paint 1 (1, .iconst 0, 1) rfl
theorem d_M_paint_2 : decode b_M_paint 2 = .ok (.putfield 50, 3) := dd_M_paint 2 (2, .putfield 50, 3) rfl
theorem d_M_paint_5 : decode b_M_paint 5 = .ok (.iconst 0, 1) := dd_M_paint 3 (5, .iconst 0, 1) rfl
theorem d_M_paint_6 : decode b_M_paint 6 = .ok (.istore 4, 2) := dd_M_paint 4 (6, .istore 4, 2) rfl
theorem d_M_paint_8 : decode b_M_paint 8 = .ok (.iconst 0, 1) := dd_M_paint 5 (8, .iconst 0, 1) rfl
theorem d_M_paint_9 : decode b_M_paint 9 = .ok (.istore 5, 2) := dd_M_paint 6 (9, .istore 5, 2) rfl
theorem d_M_paint_11 : decode b_M_paint 11 = .ok (.iload 5, 2) := dd_M_paint 7 (11, .iload 5, 2) rfl
theorem d_M_paint_13 : decode b_M_paint 13 = .ok (.aload_n 0, 1) := dd_M_paint 8 (13, .aload_n 0, 1) rfl
theorem d_M_paint_14 : decode b_M_paint 14 = .ok (.getfield 46, 3) := dd_M_paint 9 (14, .getfield 46, 3) rfl
theorem d_M_paint_17 : decode b_M_paint 17 = .ok (.aload_n 0, 1) := dd_M_paint 10 (17, .aload_n 0, 1) rfl
theorem d_M_paint_18 : decode b_M_paint 18 = .ok (.getfield 46, 3) := dd_M_paint 11 (18, .getfield 46, 3) rfl
theorem d_M_paint_21 : decode b_M_paint 21 = .ok (.imul, 1) := dd_M_paint 12 (21, .imul, 1) rfl
theorem d_M_paint_22 : decode b_M_paint 22 = .ok (.if_icmp .ge 79, 3) := dd_M_paint 13 (22, .if_icmp .ge 79, 3) rfl
theorem d_M_paint_25 : decode b_M_paint 25 = .ok (.iload_n 2, 1) := dd_M_paint 14 (25, .iload_n 2, 1) rfl
theorem d_M_paint_26 : decode b_M_paint 26 = .ok (.i2l, 1) := dd_M_paint 15 (26, .i2l, 1) rfl
theorem d_M_paint_27 : decode b_M_paint 27 = .ok (.iload 5, 2) := dd_M_paint 16 (27, .iload 5, 2) rfl
theorem d_M_paint_29 : decode b_M_paint 29 = .ok (.aload_n 0, 1) := dd_M_paint 17 (29, .aload_n 0, 1) rfl
theorem d_M_paint_30 : decode b_M_paint 30 = .ok (.getfield 46, 3) := dd_M_paint 18 (30, .getfield 46, 3) rfl
theorem d_M_paint_33 : decode b_M_paint 33 = .ok (.irem, 1) := dd_M_paint 19 (33, .irem, 1) rfl
theorem d_M_paint_34 : decode b_M_paint 34 = .ok (.i2l, 1) := dd_M_paint 20 (34, .i2l, 1) rfl
theorem d_M_paint_35 : decode b_M_paint 35 = .ok (.lmul, 1) := dd_M_paint 21 (35, .lmul, 1) rfl
theorem d_M_paint_36 : decode b_M_paint 36 = .ok (.iload_n 3, 1) := dd_M_paint 22 (36, .iload_n 3, 1) rfl
theorem d_M_paint_37 : decode b_M_paint 37 = .ok (.i2l, 1) := dd_M_paint 23 (37, .i2l, 1) rfl
theorem d_M_paint_38 : decode b_M_paint 38 = .ok (.iload 5, 2) := dd_M_paint 24 (38, .iload 5, 2) rfl
theorem d_M_paint_40 : decode b_M_paint 40 = .ok (.aload_n 0, 1) := dd_M_paint 25 (40, .aload_n 0, 1) rfl
theorem d_M_paint_41 : decode b_M_paint 41 = .ok (.getfield 46, 3) := dd_M_paint 26 (41, .getfield 46, 3) rfl
theorem d_M_paint_44 : decode b_M_paint 44 = .ok (.idiv, 1) := dd_M_paint 27 (44, .idiv, 1) rfl
theorem d_M_paint_45 : decode b_M_paint 45 = .ok (.i2l, 1) := dd_M_paint 28 (45, .i2l, 1) rfl
theorem d_M_paint_46 : decode b_M_paint 46 = .ok (.lmul, 1) := dd_M_paint 29 (46, .lmul, 1) rfl
theorem d_M_paint_47 : decode b_M_paint 47 = .ok (.ladd, 1) := dd_M_paint 30 (47, .ladd, 1) rfl
theorem d_M_paint_48 : decode b_M_paint 48 = .ok (.iload_n 1, 1) := dd_M_paint 31 (48, .iload_n 1, 1) rfl
theorem d_M_paint_49 : decode b_M_paint 49 = .ok (.i2l, 1) := dd_M_paint 32 (49, .i2l, 1) rfl
theorem d_M_paint_50 : decode b_M_paint 50 = .ok (.ladd, 1) := dd_M_paint 33 (50, .ladd, 1) rfl
theorem d_M_paint_51 : decode b_M_paint 51 = .ok (.lstore 6, 2) := dd_M_paint 34 (51, .lstore 6, 2) rfl
theorem d_M_paint_53 : decode b_M_paint 53 = .ok (.lload 6, 2) := dd_M_paint 35 (53, .lload 6, 2) rfl
theorem d_M_paint_55 : decode b_M_paint 55 = .ok (.iconst 0, 1) := dd_M_paint 36 (55, .iconst 0, 1) rfl
theorem d_M_paint_56 : decode b_M_paint 56 = .ok (.sipush 255, 3) := dd_M_paint 37 (56, .sipush 255, 3) rfl
theorem d_M_paint_59 : decode b_M_paint 59 = .ok (.invokestatic 65, 3) := dd_M_paint 38 (59, .invokestatic 65, 3) rfl
theorem d_M_paint_62 : decode b_M_paint 62 = .ok (.istore 8, 2) := dd_M_paint 39 (62, .istore 8, 2) rfl
theorem d_M_paint_64 : decode b_M_paint 64 = .ok (.iload 4, 2) := dd_M_paint 40 (64, .iload 4, 2) rfl
theorem d_M_paint_66 : decode b_M_paint 66 = .ok (.iload 8, 2) := dd_M_paint 41 (66, .iload 8, 2) rfl
theorem d_M_paint_68 : decode b_M_paint 68 = .ok (.aload_n 0, 1) := dd_M_paint 42 (68, .aload_n 0, 1) rfl
theorem d_M_paint_69 : decode b_M_paint 69 = .ok (.getfield 7, 3) := dd_M_paint 43 (69, .getfield 7, 3) rfl
theorem d_M_paint_72 : decode b_M_paint 72 = .ok (.iload 5, 2) := dd_M_paint 44 (72, .iload 5, 2) rfl
theorem d_M_paint_74 : decode b_M_paint 74 = .ok (.iaload, 1) := dd_M_paint 45 (74, .iaload, 1) rfl
theorem d_M_paint_75 : decode b_M_paint 75 = .ok (.if_icmp .ne 7, 3) := dd_M_paint 46 (75, .if_icmp .ne 7, 3) rfl
theorem d_M_paint_78 : decode b_M_paint 78 = .ok (.iconst 0, 1) := dd_M_paint 47 (78, .iconst 0, 1) rfl
theorem d_M_paint_79 : decode b_M_paint 79 = .ok (.goto 4, 3) := dd_M_paint 48 (79, .goto 4, 3) rfl
theorem d_M_paint_82 : decode b_M_paint 82 = .ok (.iconst 1, 1) := dd_M_paint 49 (82, .iconst 1, 1) rfl
theorem d_M_paint_83 : decode b_M_paint 83 = .ok (.iadd, 1) := dd_M_paint 50 (83, .iadd, 1) rfl
theorem d_M_paint_84 : decode b_M_paint 84 = .ok (.istore 4, 2) := dd_M_paint 51 (84, .istore 4, 2) rfl
theorem d_M_paint_86 : decode b_M_paint 86 = .ok (.aload_n 0, 1) := dd_M_paint 52 (86, .aload_n 0, 1) rfl
theorem d_M_paint_87 : decode b_M_paint 87 = .ok (.getfield 7, 3) := dd_M_paint 53 (87, .getfield 7, 3) rfl
theorem d_M_paint_90 : decode b_M_paint 90 = .ok (.iload 5, 2) := dd_M_paint 54 (90, .iload 5, 2) rfl
theorem d_M_paint_92 : decode b_M_paint 92 = .ok (.iload 8, 2) := dd_M_paint 55 (92, .iload 8, 2) rfl
theorem d_M_paint_94 : decode b_M_paint 94 = .ok (.iastore, 1) := dd_M_paint 56 (94, .iastore, 1) rfl
theorem d_M_paint_95 : decode b_M_paint 95 = .ok (.iinc 5 1, 3) := dd_M_paint 57 (95, .iinc 5 1, 3) rfl
theorem d_M_paint_98 : decode b_M_paint 98 = .ok (.goto (-87), 3) := dd_M_paint 58 (98, .goto (-87), 3) rfl
theorem d_M_paint_101 : decode b_M_paint 101 = .ok (.iload 4, 2) := dd_M_paint 59 (101, .iload 4, 2) rfl
theorem d_M_paint_103 : decode b_M_paint 103 = .ok (.ireturn, 1) := dd_M_paint 60 (103, .ireturn, 1) rfl
def tb_M_halve : List (Nat × Instr × Nat) := [(0, .iload_n 1, 1), (1, .iconst 2, 1), (2, .idiv, 1), (3, .istore_n 3, 1), (4, .iconst 0, 1), (5, .istore 4, 2), (7, .iload 4, 2), (9, .iload_n 3, 1), (10, .iload_n 3, 1), (11, .imul, 1), (12, .if_icmp .ge 61, 3), (15, .iconst 2, 1), (16, .iload 4, 2), (18, .iload_n 3, 1), (19, .idiv, 1), (20, .imul, 1), (21, .iload_n 1, 1), (22, .imul, 1), (23, .iconst 2, 1), (24, .iload 4, 2), (26, .iload_n 3, 1), (27, .irem, 1), (28, .imul, 1), (29, .iadd, 1), (30, .istore 5, 2), (32, .aload_n 2, 1), (33, .iload 4, 2), (35, .aload_n 0, 1), (36, .iload 5, 2), (38, .iaload, 1), (39, .aload_n 0, 1), (40, .iload 5, 2), (42, .iconst 1, 1), (43, .iadd, 1), (44, .iaload, 1), (45, .iadd, 1), (46, .aload_n 0, 1), (47, .iload 5, 2), (49, .iload_n 1, 1), (50, .iadd, 1), (51, .iaload, 1), (52, .iadd, 1), (53, .aload_n 0, 1), (54, .iload 5, 2), (56, .iload_n 1, 1), (57, .iadd, 1), (58, .iconst 1, 1), (59, .iadd, 1), (60, .iaload, 1), (61, .iadd, 1), (62, .iconst 2, 1), (63, .iadd, 1), (64, .iconst 4, 1), (65, .idiv, 1), (66, .iastore, 1), (67, .iinc 4 1, 3), (70, .goto (-63), 3), (73, .return_, 1)]
theorem dd_M_halve : ∀ (i : Nat) (q : Nat × Instr × Nat), tb_M_halve[i]? = some q → decode b_M_halve q.1 = .ok (q.2.1, q.2.2) := z_tab (by decide +kernel)
theorem d_M_halve_0 : decode b_M_halve 0 = .ok (.iload_n 1, 1) := dd_M_halve 0 (0, .iload_n 1, 1) rfl
theorem d_M_halve_1 : decode b_M_halve 1 = .ok (.iconst 2, 1) := dd_M_halve 1 (1, .iconst 2, 1) rfl
theorem d_M_halve_2 : decode b_M_halve 2 = .ok (.idiv, 1) := dd_M_halve 2 (2, .idiv, 1) rfl
theorem d_M_halve_3 : decode b_M_halve 3 = .ok (.istore_n 3, 1) := dd_M_halve 3 (3, .istore_n 3, 1) rfl
theorem d_M_halve_4 : decode b_M_halve 4 = .ok (.iconst 0, 1) := dd_M_halve 4 (4, .iconst 0, 1) rfl
theorem d_M_halve_5 : decode b_M_halve 5 = .ok (.istore 4, 2) := dd_M_halve 5 (5, .istore 4, 2) rfl
theorem d_M_halve_7 : decode b_M_halve 7 = .ok (.iload 4, 2) := dd_M_halve 6 (7, .iload 4, 2) rfl
theorem d_M_halve_9 : decode b_M_halve 9 = .ok (.iload_n 3, 1) := dd_M_halve 7 (9, .iload_n 3, 1) rfl
theorem d_M_halve_10 : decode b_M_halve 10 = .ok (.iload_n 3, 1) := dd_M_halve 8 (10, .iload_n 3, 1) rfl
theorem d_M_halve_11 : decode b_M_halve 11 = .ok (.imul, 1) := dd_M_halve 9 (11, .imul, 1) rfl
theorem d_M_halve_12 : decode b_M_halve 12 = .ok (.if_icmp .ge 61, 3) := dd_M_halve 10 (12, .if_icmp .ge 61, 3) rfl
theorem d_M_halve_15 : decode b_M_halve 15 = .ok (.iconst 2, 1) := dd_M_halve 11 (15, .iconst 2, 1) rfl
theorem d_M_halve_16 : decode b_M_halve 16 = .ok (.iload 4, 2) := dd_M_halve 12 (16, .iload 4, 2) rfl
theorem d_M_halve_18 : decode b_M_halve 18 = .ok (.iload_n 3, 1) := dd_M_halve 13 (18, .iload_n 3, 1) rfl
theorem d_M_halve_19 : decode b_M_halve 19 = .ok (.idiv, 1) := dd_M_halve 14 (19, .idiv, 1) rfl
theorem d_M_halve_20 : decode b_M_halve 20 = .ok (.imul, 1) := dd_M_halve 15 (20, .imul, 1) rfl
theorem d_M_halve_21 : decode b_M_halve 21 = .ok (.iload_n 1, 1) := dd_M_halve 16 (21, .iload_n 1, 1) rfl
theorem d_M_halve_22 : decode b_M_halve 22 = .ok (.imul, 1) := dd_M_halve 17 (22, .imul, 1) rfl
theorem d_M_halve_23 : decode b_M_halve 23 = .ok (.iconst 2, 1) := dd_M_halve 18 (23, .iconst 2, 1) rfl
theorem d_M_halve_24 : decode b_M_halve 24 = .ok (.iload 4, 2) := dd_M_halve 19 (24, .iload 4, 2) rfl
theorem d_M_halve_26 : decode b_M_halve 26 = .ok (.iload_n 3, 1) := dd_M_halve 20 (26, .iload_n 3, 1) rfl
theorem d_M_halve_27 : decode b_M_halve 27 = .ok (.irem, 1) := dd_M_halve 21 (27, .irem, 1) rfl
theorem d_M_halve_28 : decode b_M_halve 28 = .ok (.imul, 1) := dd_M_halve 22 (28, .imul, 1) rfl
theorem d_M_halve_29 : decode b_M_halve 29 = .ok (.iadd, 1) := dd_M_halve 23 (29, .iadd, 1) rfl
theorem d_M_halve_30 : decode b_M_halve 30 = .ok (.istore 5, 2) := dd_M_halve 24 (30, .istore 5, 2) rfl
theorem d_M_halve_32 : decode b_M_halve 32 = .ok (.aload_n 2, 1) := dd_M_halve 25 (32, .aload_n 2, 1) rfl
theorem d_M_halve_33 : decode b_M_halve 33 = .ok (.iload 4, 2) := dd_M_halve 26 (33, .iload 4, 2) rfl
theorem d_M_halve_35 : decode b_M_halve 35 = .ok (.aload_n 0, 1) := dd_M_halve 27 (35, .aload_n 0, 1) rfl
theorem d_M_halve_36 : decode b_M_halve 36 = .ok (.iload 5, 2) := dd_M_halve 28 (36, .iload 5, 2) rfl
theorem d_M_halve_38 : decode b_M_halve 38 = .ok (.iaload, 1) := dd_M_halve 29 (38, .iaload, 1) rfl
theorem d_M_halve_39 : decode b_M_halve 39 = .ok (.aload_n 0, 1) := dd_M_halve 30 (39, .aload_n 0, 1) rfl
theorem d_M_halve_40 : decode b_M_halve 40 = .ok (.iload 5, 2) := dd_M_halve 31 (40, .iload 5, 2) rfl
theorem d_M_halve_42 : decode b_M_halve 42 = .ok (.iconst 1, 1) := dd_M_halve 32 (42, .iconst 1, 1) rfl
theorem d_M_halve_43 : decode b_M_halve 43 = .ok (.iadd, 1) := dd_M_halve 33 (43, .iadd, 1) rfl
theorem d_M_halve_44 : decode b_M_halve 44 = .ok (.iaload, 1) := dd_M_halve 34 (44, .iaload, 1) rfl
theorem d_M_halve_45 : decode b_M_halve 45 = .ok (.iadd, 1) := dd_M_halve 35 (45, .iadd, 1) rfl
theorem d_M_halve_46 : decode b_M_halve 46 = .ok (.aload_n 0, 1) := dd_M_halve 36 (46, .aload_n 0, 1) rfl
theorem d_M_halve_47 : decode b_M_halve 47 = .ok (.iload 5, 2) := dd_M_halve 37 (47, .iload 5, 2) rfl
theorem d_M_halve_49 : decode b_M_halve 49 = .ok (.iload_n 1, 1) := dd_M_halve 38 (49, .iload_n 1, 1) rfl
theorem d_M_halve_50 : decode b_M_halve 50 = .ok (.iadd, 1) := dd_M_halve 39 (50, .iadd, 1) rfl
theorem d_M_halve_51 : decode b_M_halve 51 = .ok (.iaload, 1) := dd_M_halve 40 (51, .iaload, 1) rfl
theorem d_M_halve_52 : decode b_M_halve 52 = .ok (.iadd, 1) := dd_M_halve 41 (52, .iadd, 1) rfl
theorem d_M_halve_53 : decode b_M_halve 53 = .ok (.aload_n 0, 1) := dd_M_halve 42 (53, .aload_n 0, 1) rfl
theorem d_M_halve_54 : decode b_M_halve 54 = .ok (.iload 5, 2) := dd_M_halve 43 (54, .iload 5, 2) rfl
theorem d_M_halve_56 : decode b_M_halve 56 = .ok (.iload_n 1, 1) := dd_M_halve 44 (56, .iload_n 1, 1) rfl
theorem d_M_halve_57 : decode b_M_halve 57 = .ok (.iadd, 1) := dd_M_halve 45 (57, .iadd, 1) rfl
theorem d_M_halve_58 : decode b_M_halve 58 = .ok (.iconst 1, 1) := dd_M_halve 46 (58, .iconst 1, 1) rfl
theorem d_M_halve_59 : decode b_M_halve 59 = .ok (.iadd, 1) := dd_M_halve 47 (59, .iadd, 1) rfl
theorem d_M_halve_60 : decode b_M_halve 60 = .ok (.iaload, 1) := dd_M_halve 48 (60, .iaload, 1) rfl
theorem d_M_halve_61 : decode b_M_halve 61 = .ok (.iadd, 1) := dd_M_halve 49 (61, .iadd, 1) rfl
theorem d_M_halve_62 : decode b_M_halve 62 = .ok (.iconst 2, 1) := dd_M_halve 50 (62, .iconst 2, 1) rfl
theorem d_M_halve_63 : decode b_M_halve 63 = .ok (.iadd, 1) := dd_M_halve 51 (63, .iadd, 1) rfl
theorem d_M_halve_64 : decode b_M_halve 64 = .ok (.iconst 4, 1) := dd_M_halve 52 (64, .iconst 4, 1) rfl
theorem d_M_halve_65 : decode b_M_halve 65 = .ok (.idiv, 1) := dd_M_halve 53 (65, .idiv, 1) rfl
theorem d_M_halve_66 : decode b_M_halve 66 = .ok (.iastore, 1) := dd_M_halve 54 (66, .iastore, 1) rfl
theorem d_M_halve_67 : decode b_M_halve 67 = .ok (.iinc 4 1, 3) := dd_M_halve 55 (67, .iinc 4 1, 3) rfl
theorem d_M_halve_70 : decode b_M_halve 70 = .ok (.goto (-63), 3) := dd_M_halve 56 (70, .goto (-63), 3) rfl
theorem d_M_halve_73 : decode b_M_halve 73 = .ok (.return_, 1) := dd_M_halve 57 (73, .return_, 1) rfl
def tb_M_turned : List (Nat × Instr × Nat) := [(0, .iload 6, 2), (2, .iload 4, 2), (4, .irem, 1), (5, .istore 7, 2), (7, .iload 6, 2), (9, .iload 4, 2), (11, .idiv, 1), (12, .istore 8, 2), (14, .iconst 0, 1), (15, .istore 9, 2), (17, .iload 9, 2), (19, .iload 5, 2), (21, .iconst 4, 1), (22, .irem, 1), (23, .if_icmp .ge 26, 3), (26, .iload 7, 2), (28, .istore 10, 2), (30, .iload 8, 2), (32, .istore 7, 2), (34, .iload 4, 2), (36, .iconst 1, 1), (37, .isub, 1), (38, .iload 10, 2), (40, .isub, 1), (41, .istore 8, 2), (43, .iinc 9 1, 3), (46, .goto (-29), 3), (49, .iload 5, 2), (51, .iconst 3, 1), (52, .if_icmp .le 13, 3), (55, .iload 4, 2), (57, .iconst 1, 1), (58, .isub, 1), (59, .iload 7, 2), (61, .isub, 1), (62, .goto 5, 3), (65, .iload 7, 2), (67, .istore 7, 2), (69, .aload_n 0, 1), (70, .iload_n 3, 1), (71, .iload 8, 2), (73, .iadd, 1), (74, .iload_n 1, 1), (75, .imul, 1), (76, .iload_n 2, 1), (77, .iadd, 1), (78, .iload 7, 2), (80, .iadd, 1), (81, .iaload, 1), (82, .ireturn, 1)]
theorem dd_M_turned : ∀ (i : Nat) (q : Nat × Instr × Nat), tb_M_turned[i]? = some q → decode b_M_turned q.1 = .ok (q.2.1, q.2.2) := z_tab (by decide +kernel)
theorem d_M_turned_0 : decode b_M_turned 0 = .ok (.iload 6, 2) := dd_M_turned 0 (0, .iload 6, 2) rfl
theorem d_M_turned_2 : decode b_M_turned 2 = .ok (.iload 4, 2) := dd_M_turned 1 (2, .iload 4, 2) rfl
theorem d_M_turned_4 : decode b_M_turned 4 = .ok (.irem, 1) := dd_M_turned 2 (4, .irem, 1) rfl
theorem d_M_turned_5 : decode b_M_turned 5 = .ok (.istore 7, 2) := dd_M_turned 3 (5, .istore 7, 2) rfl
theorem d_M_turned_7 : decode b_M_turned 7 = .ok (.iload 6, 2) := dd_M_turned 4 (7, .iload 6, 2) rfl
theorem d_M_turned_9 : decode b_M_turned 9 = .ok (.iload 4, 2) := dd_M_turned 5 (9, .iload 4, 2) rfl
theorem d_M_turned_11 : decode b_M_turned 11 = .ok (.idiv, 1) := dd_M_turned 6 (11, .idiv, 1) rfl
theorem d_M_turned_12 : decode b_M_turned 12 = .ok (.istore 8, 2) := dd_M_turned 7 (12, .istore 8, 2) rfl
theorem d_M_turned_14 : decode b_M_turned 14 = .ok (.iconst 0, 1) := dd_M_turned 8 (14, .iconst 0, 1) rfl
theorem d_M_turned_15 : decode b_M_turned 15 = .ok (.istore 9, 2) := dd_M_turned 9 (15, .istore 9, 2) rfl
theorem d_M_turned_17 : decode b_M_turned 17 = .ok (.iload 9, 2) := dd_M_turned 10 (17, .iload 9, 2) rfl
theorem d_M_turned_19 : decode b_M_turned 19 = .ok (.iload 5, 2) := dd_M_turned 11 (19, .iload 5, 2) rfl
theorem d_M_turned_21 : decode b_M_turned 21 = .ok (.iconst 4, 1) := dd_M_turned 12 (21, .iconst 4, 1) rfl
theorem d_M_turned_22 : decode b_M_turned 22 = .ok (.irem, 1) := dd_M_turned 13 (22, .irem, 1) rfl
theorem d_M_turned_23 : decode b_M_turned 23 = .ok (.if_icmp .ge 26, 3) := dd_M_turned 14 (23, .if_icmp .ge 26, 3) rfl
theorem d_M_turned_26 : decode b_M_turned 26 = .ok (.iload 7, 2) := dd_M_turned 15 (26, .iload 7, 2) rfl
theorem d_M_turned_28 : decode b_M_turned 28 = .ok (.istore 10, 2) := dd_M_turned 16 (28, .istore 10, 2) rfl
theorem d_M_turned_30 : decode b_M_turned 30 = .ok (.iload 8, 2) := dd_M_turned 17 (30, .iload 8, 2) rfl
theorem d_M_turned_32 : decode b_M_turned 32 = .ok (.istore 7, 2) := dd_M_turned 18 (32, .istore 7, 2) rfl
theorem d_M_turned_34 : decode b_M_turned 34 = .ok (.iload 4, 2) := dd_M_turned 19 (34, .iload 4, 2) rfl
theorem d_M_turned_36 : decode b_M_turned 36 = .ok (.iconst 1, 1) := dd_M_turned 20 (36, .iconst 1, 1) rfl
theorem d_M_turned_37 : decode b_M_turned 37 = .ok (.isub, 1) := dd_M_turned 21 (37, .isub, 1) rfl
theorem d_M_turned_38 : decode b_M_turned 38 = .ok (.iload 10, 2) := dd_M_turned 22 (38, .iload 10, 2) rfl
theorem d_M_turned_40 : decode b_M_turned 40 = .ok (.isub, 1) := dd_M_turned 23 (40, .isub, 1) rfl
theorem d_M_turned_41 : decode b_M_turned 41 = .ok (.istore 8, 2) := dd_M_turned 24 (41, .istore 8, 2) rfl
theorem d_M_turned_43 : decode b_M_turned 43 = .ok (.iinc 9 1, 3) := dd_M_turned 25 (43, .iinc 9 1, 3) rfl
theorem d_M_turned_46 : decode b_M_turned 46 = .ok (.goto (-29), 3) := dd_M_turned 26 (46, .goto (-29), 3) rfl
theorem d_M_turned_49 : decode b_M_turned 49 = .ok (.iload 5, 2) := dd_M_turned 27 (49, .iload 5, 2) rfl
theorem d_M_turned_51 : decode b_M_turned 51 = .ok (.iconst 3, 1) := dd_M_turned 28 (51, .iconst 3, 1) rfl
theorem d_M_turned_52 : decode b_M_turned 52 = .ok (.if_icmp .le 13, 3) := dd_M_turned 29 (52, .if_icmp .le 13, 3) rfl
theorem d_M_turned_55 : decode b_M_turned 55 = .ok (.iload 4, 2) := dd_M_turned 30 (55, .iload 4, 2) rfl
theorem d_M_turned_57 : decode b_M_turned 57 = .ok (.iconst 1, 1) := dd_M_turned 31 (57, .iconst 1, 1) rfl
theorem d_M_turned_58 : decode b_M_turned 58 = .ok (.isub, 1) := dd_M_turned 32 (58, .isub, 1) rfl
theorem d_M_turned_59 : decode b_M_turned 59 = .ok (.iload 7, 2) := dd_M_turned 33 (59, .iload 7, 2) rfl
theorem d_M_turned_61 : decode b_M_turned 61 = .ok (.isub, 1) := dd_M_turned 34 (61, .isub, 1) rfl
theorem d_M_turned_62 : decode b_M_turned 62 = .ok (.goto 5, 3) := dd_M_turned 35 (62, .goto 5, 3) rfl
theorem d_M_turned_65 : decode b_M_turned 65 = .ok (.iload 7, 2) := dd_M_turned 36 (65, .iload 7, 2) rfl
theorem d_M_turned_67 : decode b_M_turned 67 = .ok (.istore 7, 2) := dd_M_turned 37 (67, .istore 7, 2) rfl
theorem d_M_turned_69 : decode b_M_turned 69 = .ok (.aload_n 0, 1) := dd_M_turned 38 (69, .aload_n 0, 1) rfl
theorem d_M_turned_70 : decode b_M_turned 70 = .ok (.iload_n 3, 1) := dd_M_turned 39 (70, .iload_n 3, 1) rfl
theorem d_M_turned_71 : decode b_M_turned 71 = .ok (.iload 8, 2) := dd_M_turned 40 (71, .iload 8, 2) rfl
theorem d_M_turned_73 : decode b_M_turned 73 = .ok (.iadd, 1) := dd_M_turned 41 (73, .iadd, 1) rfl
theorem d_M_turned_74 : decode b_M_turned 74 = .ok (.iload_n 1, 1) := dd_M_turned 42 (74, .iload_n 1, 1) rfl
theorem d_M_turned_75 : decode b_M_turned 75 = .ok (.imul, 1) := dd_M_turned 43 (75, .imul, 1) rfl
theorem d_M_turned_76 : decode b_M_turned 76 = .ok (.iload_n 2, 1) := dd_M_turned 44 (76, .iload_n 2, 1) rfl
theorem d_M_turned_77 : decode b_M_turned 77 = .ok (.iadd, 1) := dd_M_turned 45 (77, .iadd, 1) rfl
theorem d_M_turned_78 : decode b_M_turned 78 = .ok (.iload 7, 2) := dd_M_turned 46 (78, .iload 7, 2) rfl
theorem d_M_turned_80 : decode b_M_turned 80 = .ok (.iadd, 1) := dd_M_turned 47 (80, .iadd, 1) rfl
theorem d_M_turned_81 : decode b_M_turned 81 = .ok (.iaload, 1) := dd_M_turned 48 (81, .iaload, 1) rfl
theorem d_M_turned_82 : decode b_M_turned 82 = .ok (.ireturn, 1) := dd_M_turned 49 (82, .ireturn, 1) rfl
def tb_M_domains : List (Nat × Instr × Nat) := [(0, .aload_n 0, 1), (1, .getfield 46, 3), (4, .iconst 2, 1), (5, .iload_n 1, 1), (6, .imul, 1), (7, .isub, 1), (8, .iload_n 1, 1), (9, .idiv, 1), (10, .iconst 1, 1), (11, .iadd, 1), (12, .ireturn, 1)]
theorem dd_M_domains : ∀ (i : Nat) (q : Nat × Instr × Nat), tb_M_domains[i]? = some q → decode b_M_domains q.1 = .ok (q.2.1, q.2.2) := z_tab (by decide +kernel)
theorem d_M_domains_0 : decode b_M_domains 0 = .ok (.aload_n 0, 1) := dd_M_domains 0 (0, .aload_n 0, 1) rfl
theorem d_M_domains_1 : decode b_M_domains 1 = .ok (.getfield 46, 3) := dd_M_domains 1 (1, .getfield 46, 3) rfl
theorem d_M_domains_4 : decode b_M_domains 4 = .ok (.iconst 2, 1) := dd_M_domains 2 (4, .iconst 2, 1) rfl
theorem d_M_domains_5 : decode b_M_domains 5 = .ok (.iload_n 1, 1) := dd_M_domains 3 (5, .iload_n 1, 1) rfl
theorem d_M_domains_6 : decode b_M_domains 6 = .ok (.imul, 1) := dd_M_domains 4 (6, .imul, 1) rfl
theorem d_M_domains_7 : decode b_M_domains 7 = .ok (.isub, 1) := dd_M_domains 5 (7, .isub, 1) rfl
theorem d_M_domains_8 : decode b_M_domains 8 = .ok (.iload_n 1, 1) := dd_M_domains 6 (8, .iload_n 1, 1) rfl
theorem d_M_domains_9 : decode b_M_domains 9 = .ok (.idiv, 1) := dd_M_domains 7 (9, .idiv, 1) rfl
theorem d_M_domains_10 : decode b_M_domains 10 = .ok (.iconst 1, 1) := dd_M_domains 8 (10, .iconst 1, 1) rfl
theorem d_M_domains_11 : decode b_M_domains 11 = .ok (.iadd, 1) := dd_M_domains 9 (11, .iadd, 1) rfl
theorem d_M_domains_12 : decode b_M_domains 12 = .ok (.ireturn, 1) := dd_M_domains 10 (12, .ireturn, 1) rfl
def tb_M_layDomain : List (Nat × Instr × Nat) := [(0, .aload_n 0, 1), (1, .iload_n 1, 1), (2, .invokevirtual 69, 3), (5, .istore 4, 2), (7, .iconst 0, 1), (8, .istore 5, 2), (10, .iload 5, 2), (12, .iload_n 1, 1), (13, .iload_n 1, 1), (14, .imul, 1), (15, .if_icmp .ge 49, 3), (18, .aload_n 0, 1), (19, .getfield 37, 3), (22, .iload 5, 2), (24, .aload_n 0, 1), (25, .getfield 13, 3), (28, .aload_n 0, 1), (29, .getfield 46, 3), (32, .iconst 2, 1), (33, .idiv, 1), (34, .iload_n 1, 1), (35, .iload_n 2, 1), (36, .iload 4, 2), (38, .irem, 1), (39, .imul, 1), (40, .iconst 2, 1), (41, .idiv, 1), (42, .iload_n 1, 1), (43, .iload_n 2, 1), (44, .iload 4, 2), (46, .idiv, 1), (47, .imul, 1), (48, .iconst 2, 1), (49, .idiv, 1), (50, .iload_n 1, 1), (51, .iload_n 3, 1), (52, .iload 5, 2), (54, .invokestatic 73, 3), (57, .iastore, 1), (58, .iinc 5 1, 3), (61, .goto (-51), 3), (64, .return_, 1)]
theorem dd_M_layDomain : ∀ (i : Nat) (q : Nat × Instr × Nat), tb_M_layDomain[i]? = some q → decode b_M_layDomain q.1 = .ok (q.2.1, q.2.2) := z_tab (by decide +kernel)
theorem d_M_layDomain_0 : decode b_M_layDomain 0 = .ok (.aload_n 0, 1) := dd_M_layDomain 0 (0, .aload_n 0, 1) rfl
theorem d_M_layDomain_1 : decode b_M_layDomain 1 = .ok (.iload_n 1, 1) := dd_M_layDomain 1 (1, .iload_n 1, 1) rfl
theorem d_M_layDomain_2 : decode b_M_layDomain 2 = .ok (.invokevirtual 69, 3) := dd_M_layDomain 2 (2, .invokevirtual 69, 3) rfl
theorem d_M_layDomain_5 : decode b_M_layDomain 5 = .ok (.istore 4, 2) := dd_M_layDomain 3 (5, .istore 4, 2) rfl
theorem d_M_layDomain_7 : decode b_M_layDomain 7 = .ok (.iconst 0, 1) := dd_M_layDomain 4 (7, .iconst 0, 1) rfl
theorem d_M_layDomain_8 : decode b_M_layDomain 8 = .ok (.istore 5, 2) := dd_M_layDomain 5 (8, .istore 5, 2) rfl
theorem d_M_layDomain_10 : decode b_M_layDomain 10 = .ok (.iload 5, 2) := dd_M_layDomain 6 (10, .iload 5, 2) rfl
theorem d_M_layDomain_12 : decode b_M_layDomain 12 = .ok (.iload_n 1, 1) := dd_M_layDomain 7 (12, .iload_n 1, 1) rfl
theorem d_M_layDomain_13 : decode b_M_layDomain 13 = .ok (.iload_n 1, 1) := dd_M_layDomain 8 (13, .iload_n 1, 1) rfl
theorem d_M_layDomain_14 : decode b_M_layDomain 14 = .ok (.imul, 1) := dd_M_layDomain 9 (14, .imul, 1) rfl
theorem d_M_layDomain_15 : decode b_M_layDomain 15 = .ok (.if_icmp .ge 49, 3) := dd_M_layDomain 10 (15, .if_icmp .ge 49, 3) rfl
theorem d_M_layDomain_18 : decode b_M_layDomain 18 = .ok (.aload_n 0, 1) := dd_M_layDomain 11 (18, .aload_n 0, 1) rfl
theorem d_M_layDomain_19 : decode b_M_layDomain 19 = .ok (.getfield 37, 3) := dd_M_layDomain 12 (19, .getfield 37, 3) rfl
theorem d_M_layDomain_22 : decode b_M_layDomain 22 = .ok (.iload 5, 2) := dd_M_layDomain 13 (22, .iload 5, 2) rfl
theorem d_M_layDomain_24 : decode b_M_layDomain 24 = .ok (.aload_n 0, 1) := dd_M_layDomain 14 (24, .aload_n 0, 1) rfl
theorem d_M_layDomain_25 : decode b_M_layDomain 25 = .ok (.getfield 13, 3) := dd_M_layDomain 15 (25, .getfield 13, 3) rfl
theorem d_M_layDomain_28 : decode b_M_layDomain 28 = .ok (.aload_n 0, 1) := dd_M_layDomain 16 (28, .aload_n 0, 1) rfl
theorem d_M_layDomain_29 : decode b_M_layDomain 29 = .ok (.getfield 46, 3) := dd_M_layDomain 17 (29, .getfield 46, 3) rfl
theorem d_M_layDomain_32 : decode b_M_layDomain 32 = .ok (.iconst 2, 1) := dd_M_layDomain 18 (32, .iconst 2, 1) rfl
theorem d_M_layDomain_33 : decode b_M_layDomain 33 = .ok (.idiv, 1) := dd_M_layDomain 19 (33, .idiv, 1) rfl
theorem d_M_layDomain_34 : decode b_M_layDomain 34 = .ok (.iload_n 1, 1) := dd_M_layDomain 20 (34, .iload_n 1, 1) rfl
theorem d_M_layDomain_35 : decode b_M_layDomain 35 = .ok (.iload_n 2, 1) := dd_M_layDomain 21 (35, .iload_n 2, 1) rfl
theorem d_M_layDomain_36 : decode b_M_layDomain 36 = .ok (.iload 4, 2) := dd_M_layDomain 22 (36, .iload 4, 2) rfl
theorem d_M_layDomain_38 : decode b_M_layDomain 38 = .ok (.irem, 1) := dd_M_layDomain 23 (38, .irem, 1) rfl
theorem d_M_layDomain_39 : decode b_M_layDomain 39 = .ok (.imul, 1) := dd_M_layDomain 24 (39, .imul, 1) rfl
theorem d_M_layDomain_40 : decode b_M_layDomain 40 = .ok (.iconst 2, 1) := dd_M_layDomain 25 (40, .iconst 2, 1) rfl
theorem d_M_layDomain_41 : decode b_M_layDomain 41 = .ok (.idiv, 1) := dd_M_layDomain 26 (41, .idiv, 1) rfl
theorem d_M_layDomain_42 : decode b_M_layDomain 42 = .ok (.iload_n 1, 1) := dd_M_layDomain 27 (42, .iload_n 1, 1) rfl
theorem d_M_layDomain_43 : decode b_M_layDomain 43 = .ok (.iload_n 2, 1) := dd_M_layDomain 28 (43, .iload_n 2, 1) rfl
theorem d_M_layDomain_44 : decode b_M_layDomain 44 = .ok (.iload 4, 2) := dd_M_layDomain 29 (44, .iload 4, 2) rfl
theorem d_M_layDomain_46 : decode b_M_layDomain 46 = .ok (.idiv, 1) := dd_M_layDomain 30 (46, .idiv, 1) rfl
theorem d_M_layDomain_47 : decode b_M_layDomain 47 = .ok (.imul, 1) := dd_M_layDomain 31 (47, .imul, 1) rfl
theorem d_M_layDomain_48 : decode b_M_layDomain 48 = .ok (.iconst 2, 1) := dd_M_layDomain 32 (48, .iconst 2, 1) rfl
theorem d_M_layDomain_49 : decode b_M_layDomain 49 = .ok (.idiv, 1) := dd_M_layDomain 33 (49, .idiv, 1) rfl
theorem d_M_layDomain_50 : decode b_M_layDomain 50 = .ok (.iload_n 1, 1) := dd_M_layDomain 34 (50, .iload_n 1, 1) rfl
theorem d_M_layDomain_51 : decode b_M_layDomain 51 = .ok (.iload_n 3, 1) := dd_M_layDomain 35 (51, .iload_n 3, 1) rfl
theorem d_M_layDomain_52 : decode b_M_layDomain 52 = .ok (.iload 5, 2) := dd_M_layDomain 36 (52, .iload 5, 2) rfl
theorem d_M_layDomain_54 : decode b_M_layDomain 54 = .ok (.invokestatic 73, 3) := dd_M_layDomain 37 (54, .invokestatic 73, 3) rfl
theorem d_M_layDomain_57 : decode b_M_layDomain 57 = .ok (.iastore, 1) := dd_M_layDomain 38 (57, .iastore, 1) rfl
theorem d_M_layDomain_58 : decode b_M_layDomain 58 = .ok (.iinc 5 1, 3) := dd_M_layDomain 39 (58, .iinc 5 1, 3) rfl
theorem d_M_layDomain_61 : decode b_M_layDomain 61 = .ok (.goto (-51), 3) := dd_M_layDomain 40 (61, .goto (-51), 3) rfl
theorem d_M_layDomain_64 : decode b_M_layDomain 64 = .ok (.return_, 1) := dd_M_layDomain 41 (64, .return_, 1) rfl
def tb_M_layBlock : List (Nat × Instr × Nat) := [(0, .iconst 0, 1), (1, .istore 4, 2), (3, .iload 4, 2), (5, .iload_n 3, 1), (6, .iload_n 3, 1), (7, .imul, 1), (8, .if_icmp .ge 39, 3), (11, .aload_n 0, 1), (12, .getfield 40, 3), (15, .iload 4, 2), (17, .aload_n 0, 1), (18, .getfield 7, 3), (21, .iload_n 2, 1), (22, .iload 4, 2), (24, .iload_n 3, 1), (25, .idiv, 1), (26, .iadd, 1), (27, .aload_n 0, 1), (28, .getfield 46, 3), (31, .imul, 1), (32, .iload_n 1, 1), (33, .iadd, 1), (34, .iload 4, 2), (36, .iload_n 3, 1), (37, .irem, 1), (38, .iadd, 1), (39, .iaload, 1), (40, .iastore, 1), (41, .iinc 4 1, 3), (44, .goto (-41), 3), (47, .return_, 1)]
theorem dd_M_layBlock : ∀ (i : Nat) (q : Nat × Instr × Nat), tb_M_layBlock[i]? = some q → decode b_M_layBlock q.1 = .ok (q.2.1, q.2.2) := z_tab (by decide +kernel)
theorem d_M_layBlock_0 : decode b_M_layBlock 0 = .ok (.iconst 0, 1) := dd_M_layBlock 0 (0, .iconst 0, 1) rfl
theorem d_M_layBlock_1 : decode b_M_layBlock 1 = .ok (.istore 4, 2) := dd_M_layBlock 1 (1, .istore 4, 2) rfl
theorem d_M_layBlock_3 : decode b_M_layBlock 3 = .ok (.iload 4, 2) := dd_M_layBlock 2 (3, .iload 4, 2) rfl
theorem d_M_layBlock_5 : decode b_M_layBlock 5 = .ok (.iload_n 3, 1) := dd_M_layBlock 3 (5, .iload_n 3, 1) rfl
theorem d_M_layBlock_6 : decode b_M_layBlock 6 = .ok (.iload_n 3, 1) := dd_M_layBlock 4 (6, .iload_n 3, 1) rfl
theorem d_M_layBlock_7 : decode b_M_layBlock 7 = .ok (.imul, 1) := dd_M_layBlock 5 (7, .imul, 1) rfl
theorem d_M_layBlock_8 : decode b_M_layBlock 8 = .ok (.if_icmp .ge 39, 3) := dd_M_layBlock 6 (8, .if_icmp .ge 39, 3) rfl
theorem d_M_layBlock_11 : decode b_M_layBlock 11 = .ok (.aload_n 0, 1) := dd_M_layBlock 7 (11, .aload_n 0, 1) rfl
theorem d_M_layBlock_12 : decode b_M_layBlock 12 = .ok (.getfield 40, 3) := dd_M_layBlock 8 (12, .getfield 40, 3) rfl
theorem d_M_layBlock_15 : decode b_M_layBlock 15 = .ok (.iload 4, 2) := dd_M_layBlock 9 (15, .iload 4, 2) rfl
theorem d_M_layBlock_17 : decode b_M_layBlock 17 = .ok (.aload_n 0, 1) := dd_M_layBlock 10 (17, .aload_n 0, 1) rfl
theorem d_M_layBlock_18 : decode b_M_layBlock 18 = .ok (.getfield 7, 3) := dd_M_layBlock 11 (18, .getfield 7, 3) rfl
theorem d_M_layBlock_21 : decode b_M_layBlock 21 = .ok (.iload_n 2, 1) := dd_M_layBlock 12 (21, .iload_n 2, 1) rfl
theorem d_M_layBlock_22 : decode b_M_layBlock 22 = .ok (.iload 4, 2) := dd_M_layBlock 13 (22, .iload 4, 2) rfl
theorem d_M_layBlock_24 : decode b_M_layBlock 24 = .ok (.iload_n 3, 1) := dd_M_layBlock 14 (24, .iload_n 3, 1) rfl
theorem d_M_layBlock_25 : decode b_M_layBlock 25 = .ok (.idiv, 1) := dd_M_layBlock 15 (25, .idiv, 1) rfl
theorem d_M_layBlock_26 : decode b_M_layBlock 26 = .ok (.iadd, 1) := dd_M_layBlock 16 (26, .iadd, 1) rfl
theorem d_M_layBlock_27 : decode b_M_layBlock 27 = .ok (.aload_n 0, 1) := dd_M_layBlock 17 (27, .aload_n 0, 1) rfl
theorem d_M_layBlock_28 : decode b_M_layBlock 28 = .ok (.getfield 46, 3) := dd_M_layBlock 18 (28, .getfield 46, 3) rfl
theorem d_M_layBlock_31 : decode b_M_layBlock 31 = .ok (.imul, 1) := dd_M_layBlock 19 (31, .imul, 1) rfl
theorem d_M_layBlock_32 : decode b_M_layBlock 32 = .ok (.iload_n 1, 1) := dd_M_layBlock 20 (32, .iload_n 1, 1) rfl
theorem d_M_layBlock_33 : decode b_M_layBlock 33 = .ok (.iadd, 1) := dd_M_layBlock 21 (33, .iadd, 1) rfl
theorem d_M_layBlock_34 : decode b_M_layBlock 34 = .ok (.iload 4, 2) := dd_M_layBlock 22 (34, .iload 4, 2) rfl
theorem d_M_layBlock_36 : decode b_M_layBlock 36 = .ok (.iload_n 3, 1) := dd_M_layBlock 23 (36, .iload_n 3, 1) rfl
theorem d_M_layBlock_37 : decode b_M_layBlock 37 = .ok (.irem, 1) := dd_M_layBlock 24 (37, .irem, 1) rfl
theorem d_M_layBlock_38 : decode b_M_layBlock 38 = .ok (.iadd, 1) := dd_M_layBlock 25 (38, .iadd, 1) rfl
theorem d_M_layBlock_39 : decode b_M_layBlock 39 = .ok (.iaload, 1) := dd_M_layBlock 26 (39, .iaload, 1) rfl
theorem d_M_layBlock_40 : decode b_M_layBlock 40 = .ok (.iastore, 1) := dd_M_layBlock 27 (40, .iastore, 1) rfl
theorem d_M_layBlock_41 : decode b_M_layBlock 41 = .ok (.iinc 4 1, 3) := dd_M_layBlock 28 (41, .iinc 4 1, 3) rfl
theorem d_M_layBlock_44 : decode b_M_layBlock 44 = .ok (.goto (-41), 3) := dd_M_layBlock 29 (44, .goto (-41), 3) rfl
theorem d_M_layBlock_47 : decode b_M_layBlock 47 = .ok (.return_, 1) := dd_M_layBlock 30 (47, .return_, 1) rfl
def tb_M_quarterSum : List (Nat × Instr × Nat) := [(0, .iconst 0, 1), (1, .istore_n 3, 1), (2, .iconst 0, 1), (3, .istore 4, 2), (5, .iload 4, 2), (7, .iload_n 1, 1), (8, .iload_n 1, 1), (9, .imul, 1), (10, .if_icmp .ge 59, 3), (13, .iload 4, 2), (15, .iload_n 1, 1), (16, .idiv, 1), (17, .iload_n 1, 1), (18, .iconst 2, 1), (19, .idiv, 1), (20, .if_icmp .ge 7, 3), (23, .iconst 0, 1), (24, .goto 4, 3), (27, .iconst 2, 1), (28, .iload 4, 2), (30, .iload_n 1, 1), (31, .irem, 1), (32, .iload_n 1, 1), (33, .iconst 2, 1), (34, .idiv, 1), (35, .if_icmp .ge 7, 3), (38, .iconst 0, 1), (39, .goto 4, 3), (42, .iconst 1, 1), (43, .iadd, 1), (44, .istore 5, 2), (46, .iload_n 3, 1), (47, .iload 5, 2), (49, .iload_n 2, 1), (50, .if_icmp .ne 10, 3), (53, .aload_n 0, 1), (54, .iload 4, 2), (56, .iaload, 1), (57, .goto 4, 3), (60, .iconst 0, 1), (61, .iadd, 1), (62, .istore_n 3, 1), (63, .iinc 4 1, 3), (66, .goto (-61), 3), (69, .iload_n 3, 1), (70, .ireturn, 1)]
theorem dd_M_quarterSum : ∀ (i : Nat) (q : Nat × Instr × Nat), tb_M_quarterSum[i]? = some q → decode b_M_quarterSum q.1 = .ok (q.2.1, q.2.2) := z_tab (by decide +kernel)
theorem d_M_quarterSum_0 : decode b_M_quarterSum 0 = .ok (.iconst 0, 1) := dd_M_quarterSum 0 (0, .iconst 0, 1) rfl
theorem d_M_quarterSum_1 : decode b_M_quarterSum 1 = .ok (.istore_n 3, 1) := dd_M_quarterSum 1 (1, .istore_n 3, 1) rfl
theorem d_M_quarterSum_2 : decode b_M_quarterSum 2 = .ok (.iconst 0, 1) := dd_M_quarterSum 2 (2, .iconst 0, 1) rfl
theorem d_M_quarterSum_3 : decode b_M_quarterSum 3 = .ok (.istore 4, 2) := dd_M_quarterSum 3 (3, .istore 4, 2) rfl
theorem d_M_quarterSum_5 : decode b_M_quarterSum 5 = .ok (.iload 4, 2) := dd_M_quarterSum 4 (5, .iload 4, 2) rfl
theorem d_M_quarterSum_7 : decode b_M_quarterSum 7 = .ok (.iload_n 1, 1) := dd_M_quarterSum 5 (7, .iload_n 1, 1) rfl
theorem d_M_quarterSum_8 : decode b_M_quarterSum 8 = .ok (.iload_n 1, 1) := dd_M_quarterSum 6 (8, .iload_n 1, 1) rfl
theorem d_M_quarterSum_9 : decode b_M_quarterSum 9 = .ok (.imul, 1) := dd_M_quarterSum 7 (9, .imul, 1) rfl
theorem d_M_quarterSum_10 : decode b_M_quarterSum 10 = .ok (.if_icmp .ge 59, 3) := dd_M_quarterSum 8 (10, .if_icmp .ge 59, 3) rfl
theorem d_M_quarterSum_13 : decode b_M_quarterSum 13 = .ok (.iload 4, 2) := dd_M_quarterSum 9 (13, .iload 4, 2) rfl
theorem d_M_quarterSum_15 : decode b_M_quarterSum 15 = .ok (.iload_n 1, 1) := dd_M_quarterSum 10 (15, .iload_n 1, 1) rfl
theorem d_M_quarterSum_16 : decode b_M_quarterSum 16 = .ok (.idiv, 1) := dd_M_quarterSum 11 (16, .idiv, 1) rfl
theorem d_M_quarterSum_17 : decode b_M_quarterSum 17 = .ok (.iload_n 1, 1) := dd_M_quarterSum 12 (17, .iload_n 1, 1) rfl
theorem d_M_quarterSum_18 : decode b_M_quarterSum 18 = .ok (.iconst 2, 1) := dd_M_quarterSum 13 (18, .iconst 2, 1) rfl
theorem d_M_quarterSum_19 : decode b_M_quarterSum 19 = .ok (.idiv, 1) := dd_M_quarterSum 14 (19, .idiv, 1) rfl
theorem d_M_quarterSum_20 : decode b_M_quarterSum 20 = .ok (.if_icmp .ge 7, 3) := dd_M_quarterSum 15 (20, .if_icmp .ge 7, 3) rfl
theorem d_M_quarterSum_23 : decode b_M_quarterSum 23 = .ok (.iconst 0, 1) := dd_M_quarterSum 16 (23, .iconst 0, 1) rfl
theorem d_M_quarterSum_24 : decode b_M_quarterSum 24 = .ok (.goto 4, 3) := dd_M_quarterSum 17 (24, .goto 4, 3) rfl
theorem d_M_quarterSum_27 : decode b_M_quarterSum 27 = .ok (.iconst 2, 1) := dd_M_quarterSum 18 (27, .iconst 2, 1) rfl
theorem d_M_quarterSum_28 : decode b_M_quarterSum 28 = .ok (.iload 4, 2) := dd_M_quarterSum 19 (28, .iload 4, 2) rfl
theorem d_M_quarterSum_30 : decode b_M_quarterSum 30 = .ok (.iload_n 1, 1) := dd_M_quarterSum 20 (30, .iload_n 1, 1) rfl
theorem d_M_quarterSum_31 : decode b_M_quarterSum 31 = .ok (.irem, 1) := dd_M_quarterSum 21 (31, .irem, 1) rfl
theorem d_M_quarterSum_32 : decode b_M_quarterSum 32 = .ok (.iload_n 1, 1) := dd_M_quarterSum 22 (32, .iload_n 1, 1) rfl
theorem d_M_quarterSum_33 : decode b_M_quarterSum 33 = .ok (.iconst 2, 1) := dd_M_quarterSum 23 (33, .iconst 2, 1) rfl
theorem d_M_quarterSum_34 : decode b_M_quarterSum 34 = .ok (.idiv, 1) := dd_M_quarterSum 24 (34, .idiv, 1) rfl
theorem d_M_quarterSum_35 : decode b_M_quarterSum 35 = .ok (.if_icmp .ge 7, 3) := dd_M_quarterSum 25 (35, .if_icmp .ge 7, 3) rfl
theorem d_M_quarterSum_38 : decode b_M_quarterSum 38 = .ok (.iconst 0, 1) := dd_M_quarterSum 26 (38, .iconst 0, 1) rfl
theorem d_M_quarterSum_39 : decode b_M_quarterSum 39 = .ok (.goto 4, 3) := dd_M_quarterSum 27 (39, .goto 4, 3) rfl
theorem d_M_quarterSum_42 : decode b_M_quarterSum 42 = .ok (.iconst 1, 1) := dd_M_quarterSum 28 (42, .iconst 1, 1) rfl
theorem d_M_quarterSum_43 : decode b_M_quarterSum 43 = .ok (.iadd, 1) := dd_M_quarterSum 29 (43, .iadd, 1) rfl
theorem d_M_quarterSum_44 : decode b_M_quarterSum 44 = .ok (.istore 5, 2) := dd_M_quarterSum 30 (44, .istore 5, 2) rfl
theorem d_M_quarterSum_46 : decode b_M_quarterSum 46 = .ok (.iload_n 3, 1) := dd_M_quarterSum 31 (46, .iload_n 3, 1) rfl
theorem d_M_quarterSum_47 : decode b_M_quarterSum 47 = .ok (.iload 5, 2) := dd_M_quarterSum 32 (47, .iload 5, 2) rfl
theorem d_M_quarterSum_49 : decode b_M_quarterSum 49 = .ok (.iload_n 2, 1) := dd_M_quarterSum 33 (49, .iload_n 2, 1) rfl
theorem d_M_quarterSum_50 : decode b_M_quarterSum 50 = .ok (.if_icmp .ne 10, 3) := dd_M_quarterSum 34 (50, .if_icmp .ne 10, 3) rfl
theorem d_M_quarterSum_53 : decode b_M_quarterSum 53 = .ok (.aload_n 0, 1) := dd_M_quarterSum 35 (53, .aload_n 0, 1) rfl
theorem d_M_quarterSum_54 : decode b_M_quarterSum 54 = .ok (.iload 4, 2) := dd_M_quarterSum 36 (54, .iload 4, 2) rfl
theorem d_M_quarterSum_56 : decode b_M_quarterSum 56 = .ok (.iaload, 1) := dd_M_quarterSum 37 (56, .iaload, 1) rfl
theorem d_M_quarterSum_57 : decode b_M_quarterSum 57 = .ok (.goto 4, 3) := dd_M_quarterSum 38 (57, .goto 4, 3) rfl
theorem d_M_quarterSum_60 : decode b_M_quarterSum 60 = .ok (.iconst 0, 1) := dd_M_quarterSum 39 (60, .iconst 0, 1) rfl
theorem d_M_quarterSum_61 : decode b_M_quarterSum 61 = .ok (.iadd, 1) := dd_M_quarterSum 40 (61, .iadd, 1) rfl
theorem d_M_quarterSum_62 : decode b_M_quarterSum 62 = .ok (.istore_n 3, 1) := dd_M_quarterSum 41 (62, .istore_n 3, 1) rfl
theorem d_M_quarterSum_63 : decode b_M_quarterSum 63 = .ok (.iinc 4 1, 3) := dd_M_quarterSum 42 (63, .iinc 4 1, 3) rfl
theorem d_M_quarterSum_66 : decode b_M_quarterSum 66 = .ok (.goto (-61), 3) := dd_M_quarterSum 43 (66, .goto (-61), 3) rfl
theorem d_M_quarterSum_69 : decode b_M_quarterSum 69 = .ok (.iload_n 3, 1) := dd_M_quarterSum 44 (69, .iload_n 3, 1) rfl
theorem d_M_quarterSum_70 : decode b_M_quarterSum 70 = .ok (.ireturn, 1) := dd_M_quarterSum 45 (70, .ireturn, 1) rfl
def tb_M_classOf : List (Nat × Instr × Nat) := [(0, .iconst 3, 1), (1, .istore_n 2, 1), (2, .iconst 2, 1), (3, .istore_n 3, 1), (4, .iload_n 3, 1), (5, .ifCond .lt 30, 3), (8, .aload_n 0, 1), (9, .iload_n 1, 1), (10, .iload_n 3, 1), (11, .invokestatic 77, 3), (14, .aload_n 0, 1), (15, .iload_n 1, 1), (16, .iload_n 2, 1), (17, .invokestatic 77, 3), (20, .if_icmp .lt 7, 3), (23, .iload_n 3, 1), (24, .goto 4, 3), (27, .iload_n 2, 1), (28, .istore_n 2, 1), (29, .iinc 3 (-1), 3), (32, .goto (-28), 3), (35, .iload_n 2, 1), (36, .ireturn, 1)]
theorem dd_M_classOf : ∀ (i : Nat) (q : Nat × Instr × Nat), tb_M_classOf[i]? = some q → decode b_M_classOf q.1 = .ok (q.2.1, q.2.2) := z_tab (by decide +kernel)
theorem d_M_classOf_0 : decode b_M_classOf 0 = .ok (.iconst 3, 1) := dd_M_classOf 0 (0, .iconst 3, 1) rfl
theorem d_M_classOf_1 : decode b_M_classOf 1 = .ok (.istore_n 2, 1) := dd_M_classOf 1 (1, .istore_n 2, 1) rfl
theorem d_M_classOf_2 : decode b_M_classOf 2 = .ok (.iconst 2, 1) := dd_M_classOf 2 (2, .iconst 2, 1) rfl
theorem d_M_classOf_3 : decode b_M_classOf 3 = .ok (.istore_n 3, 1) := dd_M_classOf 3 (3, .istore_n 3, 1) rfl
theorem d_M_classOf_4 : decode b_M_classOf 4 = .ok (.iload_n 3, 1) := dd_M_classOf 4 (4, .iload_n 3, 1) rfl
theorem d_M_classOf_5 : decode b_M_classOf 5 = .ok (.ifCond .lt 30, 3) := dd_M_classOf 5 (5, .ifCond .lt 30, 3) rfl
theorem d_M_classOf_8 : decode b_M_classOf 8 = .ok (.aload_n 0, 1) := dd_M_classOf 6 (8, .aload_n 0, 1) rfl
theorem d_M_classOf_9 : decode b_M_classOf 9 = .ok (.iload_n 1, 1) := dd_M_classOf 7 (9, .iload_n 1, 1) rfl
theorem d_M_classOf_10 : decode b_M_classOf 10 = .ok (.iload_n 3, 1) := dd_M_classOf 8 (10, .iload_n 3, 1) rfl
theorem d_M_classOf_11 : decode b_M_classOf 11 = .ok (.invokestatic 77, 3) := dd_M_classOf 9 (11, .invokestatic 77, 3) rfl
theorem d_M_classOf_14 : decode b_M_classOf 14 = .ok (.aload_n 0, 1) := dd_M_classOf 10 (14, .aload_n 0, 1) rfl
theorem d_M_classOf_15 : decode b_M_classOf 15 = .ok (.iload_n 1, 1) := dd_M_classOf 11 (15, .iload_n 1, 1) rfl
theorem d_M_classOf_16 : decode b_M_classOf 16 = .ok (.iload_n 2, 1) := dd_M_classOf 12 (16, .iload_n 2, 1) rfl
theorem d_M_classOf_17 : decode b_M_classOf 17 = .ok (.invokestatic 77, 3) := dd_M_classOf 13 (17, .invokestatic 77, 3) rfl
theorem d_M_classOf_20 : decode b_M_classOf 20 = .ok (.if_icmp .lt 7, 3) := dd_M_classOf 14 (20, .if_icmp .lt 7, 3) rfl
theorem d_M_classOf_23 : decode b_M_classOf 23 = .ok (.iload_n 3, 1) := dd_M_classOf 15 (23, .iload_n 3, 1) rfl
theorem d_M_classOf_24 : decode b_M_classOf 24 = .ok (.goto 4, 3) := dd_M_classOf 16 (24, .goto 4, 3) rfl
theorem d_M_classOf_27 : decode b_M_classOf 27 = .ok (.iload_n 2, 1) := dd_M_classOf 17 (27, .iload_n 2, 1) rfl
theorem d_M_classOf_28 : decode b_M_classOf 28 = .ok (.istore_n 2, 1) := dd_M_classOf 18 (28, .istore_n 2, 1) rfl
theorem d_M_classOf_29 : decode b_M_classOf 29 = .ok (.iinc 3 (-1), 3) := dd_M_classOf 19 (29, .iinc 3 (-1), 3) rfl
theorem d_M_classOf_32 : decode b_M_classOf 32 = .ok (.goto (-28), 3) := dd_M_classOf 20 (32, .goto (-28), 3) rfl
theorem d_M_classOf_35 : decode b_M_classOf 35 = .ok (.iload_n 2, 1) := dd_M_classOf 21 (35, .iload_n 2, 1) rfl
theorem d_M_classOf_36 : decode b_M_classOf 36 = .ok (.ireturn, 1) := dd_M_classOf 22 (36, .ireturn, 1) rfl
def tb_M_mapped : List (Nat × Instr × Nat) := [(0, .iload_n 0, 1), (1, .iload_n 1, 1), (2, .imul, 1), (3, .istore_n 2, 1), (4, .iload_n 2, 1), (5, .ifCond .ge 14, 3), (8, .bipush 7, 2), (10, .iload_n 2, 1), (11, .isub, 1), (12, .bipush 8, 2), (14, .idiv, 1), (15, .ineg, 1), (16, .goto 7, 3), (19, .iload_n 2, 1), (20, .bipush 8, 2), (22, .idiv, 1), (23, .ireturn, 1)]
theorem dd_M_mapped : ∀ (i : Nat) (q : Nat × Instr × Nat), tb_M_mapped[i]? = some q → decode b_M_mapped q.1 = .ok (q.2.1, q.2.2) := z_tab (by decide +kernel)
theorem d_M_mapped_0 : decode b_M_mapped 0 = .ok (.iload_n 0, 1) := dd_M_mapped 0 (0, .iload_n 0, 1) rfl
theorem d_M_mapped_1 : decode b_M_mapped 1 = .ok (.iload_n 1, 1) := dd_M_mapped 1 (1, .iload_n 1, 1) rfl
theorem d_M_mapped_2 : decode b_M_mapped 2 = .ok (.imul, 1) := dd_M_mapped 2 (2, .imul, 1) rfl
theorem d_M_mapped_3 : decode b_M_mapped 3 = .ok (.istore_n 2, 1) := dd_M_mapped 3 (3, .istore_n 2, 1) rfl
theorem d_M_mapped_4 : decode b_M_mapped 4 = .ok (.iload_n 2, 1) := dd_M_mapped 4 (4, .iload_n 2, 1) rfl
theorem d_M_mapped_5 : decode b_M_mapped 5 = .ok (.ifCond .ge 14, 3) := dd_M_mapped 5 (5, .ifCond .ge 14, 3) rfl
theorem d_M_mapped_8 : decode b_M_mapped 8 = .ok (.bipush 7, 2) := dd_M_mapped 6 (8, .bipush 7, 2) rfl
theorem d_M_mapped_10 : decode b_M_mapped 10 = .ok (.iload_n 2, 1) := dd_M_mapped 7 (10, .iload_n 2, 1) rfl
theorem d_M_mapped_11 : decode b_M_mapped 11 = .ok (.isub, 1) := dd_M_mapped 8 (11, .isub, 1) rfl
theorem d_M_mapped_12 : decode b_M_mapped 12 = .ok (.bipush 8, 2) := dd_M_mapped 9 (12, .bipush 8, 2) rfl
theorem d_M_mapped_14 : decode b_M_mapped 14 = .ok (.idiv, 1) := dd_M_mapped 10 (14, .idiv, 1) rfl
theorem d_M_mapped_15 : decode b_M_mapped 15 = .ok (.ineg, 1) := dd_M_mapped 11 (15, .ineg, 1) rfl
theorem d_M_mapped_16 : decode b_M_mapped 16 = .ok (.goto 7, 3) := dd_M_mapped 12 (16, .goto 7, 3) rfl
theorem d_M_mapped_19 : decode b_M_mapped 19 = .ok (.iload_n 2, 1) := dd_M_mapped 13 (19, .iload_n 2, 1) rfl
theorem d_M_mapped_20 : decode b_M_mapped 20 = .ok (.bipush 8, 2) := dd_M_mapped 14 (20, .bipush 8, 2) rfl
theorem d_M_mapped_22 : decode b_M_mapped 22 = .ok (.idiv, 1) := dd_M_mapped 15 (22, .idiv, 1) rfl
theorem d_M_mapped_23 : decode b_M_mapped 23 = .ok (.ireturn, 1) := dd_M_mapped 16 (23, .ireturn, 1) rfl
def tb_M_tryOne : List (Nat × Instr × Nat) := [(0, .iload_n 1, 1), (1, .iload_n 1, 1), (2, .imul, 1), (3, .i2l, 1), (4, .lstore 4, 2), (6, .lconst 0, 1), (7, .lstore 6, 2), (9, .lconst 0, 1), (10, .lstore 8, 2), (12, .lconst 0, 1), (13, .lstore 10, 2), (15, .lconst 0, 1), (16, .lstore 12, 2), (18, .iconst 0, 1), (19, .istore 14, 2), (21, .iload 14, 2), (23, .iload_n 1, 1), (24, .iload_n 1, 1), (25, .imul, 1), (26, .if_icmp .ge 77, 3), (29, .lload 6, 2), (31, .aload_n 0, 1), (32, .getfield 37, 3), (35, .iload 14, 2), (37, .iaload, 1), (38, .i2l, 1), (39, .ladd, 1), (40, .lstore 6, 2), (42, .lload 8, 2), (44, .aload_n 0, 1), (45, .getfield 40, 3), (48, .iload 14, 2), (50, .iaload, 1), (51, .i2l, 1), (52, .ladd, 1), (53, .lstore 8, 2), (55, .lload 10, 2), (57, .aload_n 0, 1), (58, .getfield 37, 3), (61, .iload 14, 2), (63, .iaload, 1), (64, .aload_n 0, 1), (65, .getfield 40, 3), (68, .iload 14, 2), (70, .iaload, 1), (71, .imul, 1), (72, .i2l, 1), (73, .ladd, 1), (74, .lstore 10, 2), (76, .lload 12, 2), (78, .aload_n 0, 1), (79, .getfield 37, 3), (82, .iload 14, 2), (84, .iaload, 1), (85, .aload_n 0, 1), (86, .getfield 37, 3), (89, .iload 14, 2), (91, .iaload, 1), (92, .imul, 1), (93, .i2l, 1), (94, .ladd, 1), (95, .lstore 12, 2), (97, .iinc 14 1, 3), (100, .goto (-79), 3), (103, .lload 4, 2), (105, .lload 10, 2), (107, .lmul, 1), (108, .lload 6, 2), (110, .lload 8, 2), (112, .lmul, 1), (113, .lsub, 1), (114, .lstore 14, 2), (116, .lload 4, 2), (118, .lload 12, 2), (120, .lmul, 1), (121, .lload 6, 2), (123, .lload 6, 2), (125, .lmul, 1), (126, .lsub, 1), (127, .lstore 16, 2), (129, .lload 16, 2), (131, .lconst 0, 1), (132, .lcmp, 1), (133, .ifCond .ne 7, 3), (136, .iconst 0, 1), (137, .goto 21, 3), (140, .ldc2_w 81, 3), (143, .lload 14, 2), (145, .lmul, 1), (146, .lload 16, 2), (148, .invokestatic 83, 3), (151, .bipush (-7), 2), (153, .bipush 7, 2), (155, .invokestatic 65, 3), (158, .istore 18, 2), (160, .lload 8, 2), (162, .lstore 19, 2), (164, .iconst 0, 1), (165, .istore 21, 2), (167, .iload 21, 2), (169, .iload_n 1, 1), (170, .iload_n 1, 1), (171, .imul, 1), (172, .if_icmp .ge 27, 3), (175, .lload 19, 2), (177, .iload 18, 2), (179, .aload_n 0, 1), (180, .getfield 37, 3), (183, .iload 21, 2), (185, .iaload, 1), (186, .invokestatic 87, 3), (189, .i2l, 1), (190, .lsub, 1), (191, .lstore 19, 2), (193, .iinc 21 1, 3), (196, .goto (-29), 3), (199, .lload 19, 2), (201, .lload 4, 2), (203, .invokestatic 83, 3), (206, .l2i, 1), (207, .istore 21, 2), (209, .lconst 0, 1), (210, .lstore 22, 2), (212, .iconst 0, 1), (213, .istore 24, 2), (215, .iload 24, 2), (217, .iload_n 1, 1), (218, .iload_n 1, 1), (219, .imul, 1), (220, .if_icmp .ge 45, 3), (223, .aload_n 0, 1), (224, .getfield 40, 3), (227, .iload 24, 2), (229, .iaload, 1), (230, .iload 18, 2), (232, .aload_n 0, 1), (233, .getfield 37, 3), (236, .iload 24, 2), (238, .iaload, 1), (239, .invokestatic 87, 3), (242, .isub, 1), (243, .iload 21, 2), (245, .isub, 1), (246, .i2l, 1), (247, .lstore 25, 2), (249, .lload 22, 2), (251, .lload 25, 2), (253, .lload 25, 2), (255, .lmul, 1), (256, .ladd, 1), (257, .lstore 22, 2), (259, .iinc 24 1, 3), (262, .goto (-47), 3), (265, .aload_n 0, 1), (266, .getfield 91, 3), (269, .lconst 0, 1), (270, .lcmp, 1), (271, .ifCond .lt 13, 3), (274, .lload 22, 2), (276, .aload_n 0, 1), (277, .getfield 91, 3), (280, .lcmp, 1), (281, .ifCond .ge 39, 3), (284, .aload_n 0, 1), (285, .lload 22, 2), (287, .putfield 91, 3), (290, .aload_n 0, 1), (291, .getfield 43, 3), (294, .iconst 0, 1), (295, .iload_n 2, 1), (296, .iastore, 1), (297, .aload_n 0, 1), (298, .getfield 43, 3), (301, .iconst 1, 1), (302, .iload_n 3, 1), (303, .iastore, 1), (304, .aload_n 0, 1), (305, .getfield 43, 3), (308, .iconst 2, 1), (309, .iload 18, 2), (311, .iastore, 1), (312, .aload_n 0, 1), (313, .getfield 43, 3), (316, .iconst 3, 1), (317, .iload 21, 2), (319, .iastore, 1), (320, .return_, 1)]
theorem dd_M_tryOne : ∀ (i : Nat) (q : Nat × Instr × Nat), tb_M_tryOne[i]? = some q → decode b_M_tryOne q.1 = .ok (q.2.1, q.2.2) := z_tab (by decide +kernel)
theorem d_M_tryOne_0 : decode b_M_tryOne 0 = .ok (.iload_n 1, 1) := dd_M_tryOne 0 (0, .iload_n 1, 1) rfl
theorem d_M_tryOne_1 : decode b_M_tryOne 1 = .ok (.iload_n 1, 1) := dd_M_tryOne 1 (1, .iload_n 1, 1) rfl
theorem d_M_tryOne_2 : decode b_M_tryOne 2 = .ok (.imul, 1) := dd_M_tryOne 2 (2, .imul, 1) rfl
theorem d_M_tryOne_3 : decode b_M_tryOne 3 = .ok (.i2l, 1) := dd_M_tryOne 3 (3, .i2l, 1) rfl
theorem d_M_tryOne_4 : decode b_M_tryOne 4 = .ok (.lstore 4, 2) := dd_M_tryOne 4 (4, .lstore 4, 2) rfl
theorem d_M_tryOne_6 : decode b_M_tryOne 6 = .ok (.lconst 0, 1) := dd_M_tryOne 5 (6, .lconst 0, 1) rfl
theorem d_M_tryOne_7 : decode b_M_tryOne 7 = .ok (.lstore 6, 2) := dd_M_tryOne 6 (7, .lstore 6, 2) rfl
theorem d_M_tryOne_9 : decode b_M_tryOne 9 = .ok (.lconst 0, 1) := dd_M_tryOne 7 (9, .lconst 0, 1) rfl
theorem d_M_tryOne_10 : decode b_M_tryOne 10 = .ok (.lstore 8, 2) := dd_M_tryOne 8 (10, .lstore 8, 2) rfl
theorem d_M_tryOne_12 : decode b_M_tryOne 12 = .ok (.lconst 0, 1) := dd_M_tryOne 9 (12, .lconst 0, 1) rfl
theorem d_M_tryOne_13 : decode b_M_tryOne 13 = .ok (.lstore 10, 2) := dd_M_tryOne 10 (13, .lstore 10, 2) rfl
theorem d_M_tryOne_15 : decode b_M_tryOne 15 = .ok (.lconst 0, 1) := dd_M_tryOne 11 (15, .lconst 0, 1) rfl
theorem d_M_tryOne_16 : decode b_M_tryOne 16 = .ok (.lstore 12, 2) := dd_M_tryOne 12 (16, .lstore 12, 2) rfl
theorem d_M_tryOne_18 : decode b_M_tryOne 18 = .ok (.iconst 0, 1) := dd_M_tryOne 13 (18, .iconst 0, 1) rfl
theorem d_M_tryOne_19 : decode b_M_tryOne 19 = .ok (.istore 14, 2) := dd_M_tryOne 14 (19, .istore 14, 2) rfl
theorem d_M_tryOne_21 : decode b_M_tryOne 21 = .ok (.iload 14, 2) := dd_M_tryOne 15 (21, .iload 14, 2) rfl
theorem d_M_tryOne_23 : decode b_M_tryOne 23 = .ok (.iload_n 1, 1) := dd_M_tryOne 16 (23, .iload_n 1, 1) rfl
theorem d_M_tryOne_24 : decode b_M_tryOne 24 = .ok (.iload_n 1, 1) := dd_M_tryOne 17 (24, .iload_n 1, 1) rfl
theorem d_M_tryOne_25 : decode b_M_tryOne 25 = .ok (.imul, 1) := dd_M_tryOne 18 (25, .imul, 1) rfl
theorem d_M_tryOne_26 : decode b_M_tryOne 26 = .ok (.if_icmp .ge 77, 3) := dd_M_tryOne 19 (26, .if_icmp .ge 77, 3) rfl
theorem d_M_tryOne_29 : decode b_M_tryOne 29 = .ok (.lload 6, 2) := dd_M_tryOne 20 (29, .lload 6, 2) rfl
theorem d_M_tryOne_31 : decode b_M_tryOne 31 = .ok (.aload_n 0, 1) := dd_M_tryOne 21 (31, .aload_n 0, 1) rfl
theorem d_M_tryOne_32 : decode b_M_tryOne 32 = .ok (.getfield 37, 3) := dd_M_tryOne 22 (32, .getfield 37, 3) rfl
theorem d_M_tryOne_35 : decode b_M_tryOne 35 = .ok (.iload 14, 2) := dd_M_tryOne 23 (35, .iload 14, 2) rfl
theorem d_M_tryOne_37 : decode b_M_tryOne 37 = .ok (.iaload, 1) := dd_M_tryOne 24 (37, .iaload, 1) rfl
theorem d_M_tryOne_38 : decode b_M_tryOne 38 = .ok (.i2l, 1) := dd_M_tryOne 25 (38, .i2l, 1) rfl
theorem d_M_tryOne_39 : decode b_M_tryOne 39 = .ok (.ladd, 1) := dd_M_tryOne 26 (39, .ladd, 1) rfl
theorem d_M_tryOne_40 : decode b_M_tryOne 40 = .ok (.lstore 6, 2) := dd_M_tryOne 27 (40, .lstore 6, 2) rfl
theorem d_M_tryOne_42 : decode b_M_tryOne 42 = .ok (.lload 8, 2) := dd_M_tryOne 28 (42, .lload 8, 2) rfl
theorem d_M_tryOne_44 : decode b_M_tryOne 44 = .ok (.aload_n 0, 1) := dd_M_tryOne 29 (44, .aload_n 0, 1) rfl
theorem d_M_tryOne_45 : decode b_M_tryOne 45 = .ok (.getfield 40, 3) := dd_M_tryOne 30 (45, .getfield 40, 3) rfl
theorem d_M_tryOne_48 : decode b_M_tryOne 48 = .ok (.iload 14, 2) := dd_M_tryOne 31 (48, .iload 14, 2) rfl
theorem d_M_tryOne_50 : decode b_M_tryOne 50 = .ok (.iaload, 1) := dd_M_tryOne 32 (50, .iaload, 1) rfl
theorem d_M_tryOne_51 : decode b_M_tryOne 51 = .ok (.i2l, 1) := dd_M_tryOne 33 (51, .i2l, 1) rfl
theorem d_M_tryOne_52 : decode b_M_tryOne 52 = .ok (.ladd, 1) := dd_M_tryOne 34 (52, .ladd, 1) rfl
theorem d_M_tryOne_53 : decode b_M_tryOne 53 = .ok (.lstore 8, 2) := dd_M_tryOne 35 (53, .lstore 8, 2) rfl
theorem d_M_tryOne_55 : decode b_M_tryOne 55 = .ok (.lload 10, 2) := dd_M_tryOne 36 (55, .lload 10, 2) rfl
theorem d_M_tryOne_57 : decode b_M_tryOne 57 = .ok (.aload_n 0, 1) := dd_M_tryOne 37 (57, .aload_n 0, 1) rfl
theorem d_M_tryOne_58 : decode b_M_tryOne 58 = .ok (.getfield 37, 3) := dd_M_tryOne 38 (58, .getfield 37, 3) rfl
theorem d_M_tryOne_61 : decode b_M_tryOne 61 = .ok (.iload 14, 2) := dd_M_tryOne 39 (61, .iload 14, 2) rfl
theorem d_M_tryOne_63 : decode b_M_tryOne 63 = .ok (.iaload, 1) := dd_M_tryOne 40 (63, .iaload, 1) rfl
theorem d_M_tryOne_64 : decode b_M_tryOne 64 = .ok (.aload_n 0, 1) := dd_M_tryOne 41 (64, .aload_n 0, 1) rfl
theorem d_M_tryOne_65 : decode b_M_tryOne 65 = .ok (.getfield 40, 3) := dd_M_tryOne 42 (65, .getfield 40, 3) rfl
theorem d_M_tryOne_68 : decode b_M_tryOne 68 = .ok (.iload 14, 2) := dd_M_tryOne 43 (68, .iload 14, 2) rfl
theorem d_M_tryOne_70 : decode b_M_tryOne 70 = .ok (.iaload, 1) := dd_M_tryOne 44 (70, .iaload, 1) rfl
theorem d_M_tryOne_71 : decode b_M_tryOne 71 = .ok (.imul, 1) := dd_M_tryOne 45 (71, .imul, 1) rfl
theorem d_M_tryOne_72 : decode b_M_tryOne 72 = .ok (.i2l, 1) := dd_M_tryOne 46 (72, .i2l, 1) rfl
theorem d_M_tryOne_73 : decode b_M_tryOne 73 = .ok (.ladd, 1) := dd_M_tryOne 47 (73, .ladd, 1) rfl
theorem d_M_tryOne_74 : decode b_M_tryOne 74 = .ok (.lstore 10, 2) := dd_M_tryOne 48 (74, .lstore 10, 2) rfl
theorem d_M_tryOne_76 : decode b_M_tryOne 76 = .ok (.lload 12, 2) := dd_M_tryOne 49 (76, .lload 12, 2) rfl
theorem d_M_tryOne_78 : decode b_M_tryOne 78 = .ok (.aload_n 0, 1) := dd_M_tryOne 50 (78, .aload_n 0, 1) rfl
theorem d_M_tryOne_79 : decode b_M_tryOne 79 = .ok (.getfield 37, 3) := dd_M_tryOne 51 (79, .getfield 37, 3) rfl
theorem d_M_tryOne_82 : decode b_M_tryOne 82 = .ok (.iload 14, 2) := dd_M_tryOne 52 (82, .iload 14, 2) rfl
theorem d_M_tryOne_84 : decode b_M_tryOne 84 = .ok (.iaload, 1) := dd_M_tryOne 53 (84, .iaload, 1) rfl
theorem d_M_tryOne_85 : decode b_M_tryOne 85 = .ok (.aload_n 0, 1) := dd_M_tryOne 54 (85, .aload_n 0, 1) rfl
theorem d_M_tryOne_86 : decode b_M_tryOne 86 = .ok (.getfield 37, 3) := dd_M_tryOne 55 (86, .getfield 37, 3) rfl
theorem d_M_tryOne_89 : decode b_M_tryOne 89 = .ok (.iload 14, 2) := dd_M_tryOne 56 (89, .iload 14, 2) rfl
theorem d_M_tryOne_91 : decode b_M_tryOne 91 = .ok (.iaload, 1) := dd_M_tryOne 57 (91, .iaload, 1) rfl
theorem d_M_tryOne_92 : decode b_M_tryOne 92 = .ok (.imul, 1) := dd_M_tryOne 58 (92, .imul, 1) rfl
theorem d_M_tryOne_93 : decode b_M_tryOne 93 = .ok (.i2l, 1) := dd_M_tryOne 59 (93, .i2l, 1) rfl
theorem d_M_tryOne_94 : decode b_M_tryOne 94 = .ok (.ladd, 1) := dd_M_tryOne 60 (94, .ladd, 1) rfl
theorem d_M_tryOne_95 : decode b_M_tryOne 95 = .ok (.lstore 12, 2) := dd_M_tryOne 61 (95, .lstore 12, 2) rfl
theorem d_M_tryOne_97 : decode b_M_tryOne 97 = .ok (.iinc 14 1, 3) := dd_M_tryOne 62 (97, .iinc 14 1, 3) rfl
theorem d_M_tryOne_100 : decode b_M_tryOne 100 = .ok (.goto (-79), 3) := dd_M_tryOne 63 (100, .goto (-79), 3) rfl
theorem d_M_tryOne_103 : decode b_M_tryOne 103 = .ok (.lload 4, 2) := dd_M_tryOne 64 (103, .lload 4, 2) rfl
theorem d_M_tryOne_105 : decode b_M_tryOne 105 = .ok (.lload 10, 2) := dd_M_tryOne 65 (105, .lload 10, 2) rfl
theorem d_M_tryOne_107 : decode b_M_tryOne 107 = .ok (.lmul, 1) := dd_M_tryOne 66 (107, .lmul, 1) rfl
theorem d_M_tryOne_108 : decode b_M_tryOne 108 = .ok (.lload 6, 2) := dd_M_tryOne 67 (108, .lload 6, 2) rfl
theorem d_M_tryOne_110 : decode b_M_tryOne 110 = .ok (.lload 8, 2) := dd_M_tryOne 68 (110, .lload 8, 2) rfl
theorem d_M_tryOne_112 : decode b_M_tryOne 112 = .ok (.lmul, 1) := dd_M_tryOne 69 (112, .lmul, 1) rfl
theorem d_M_tryOne_113 : decode b_M_tryOne 113 = .ok (.lsub, 1) := dd_M_tryOne 70 (113, .lsub, 1) rfl
theorem d_M_tryOne_114 : decode b_M_tryOne 114 = .ok (.lstore 14, 2) := dd_M_tryOne 71 (114, .lstore 14, 2) rfl
theorem d_M_tryOne_116 : decode b_M_tryOne 116 = .ok (.lload 4, 2) := dd_M_tryOne 72 (116, .lload 4, 2) rfl
theorem d_M_tryOne_118 : decode b_M_tryOne 118 = .ok (.lload 12, 2) := dd_M_tryOne 73 (118, .lload 12, 2) rfl
theorem d_M_tryOne_120 : decode b_M_tryOne 120 = .ok (.lmul, 1) := dd_M_tryOne 74 (120, .lmul, 1) rfl
theorem d_M_tryOne_121 : decode b_M_tryOne 121 = .ok (.lload 6, 2) := dd_M_tryOne 75 (121, .lload 6, 2) rfl
theorem d_M_tryOne_123 : decode b_M_tryOne 123 = .ok (.lload 6, 2) := dd_M_tryOne 76 (123, .lload 6, 2) rfl
theorem d_M_tryOne_125 : decode b_M_tryOne 125 = .ok (.lmul, 1) := dd_M_tryOne 77 (125, .lmul, 1) rfl
theorem d_M_tryOne_126 : decode b_M_tryOne 126 = .ok (.lsub, 1) := dd_M_tryOne 78 (126, .lsub, 1) rfl
theorem d_M_tryOne_127 : decode b_M_tryOne 127 = .ok (.lstore 16, 2) := dd_M_tryOne 79 (127, .lstore 16, 2) rfl
theorem d_M_tryOne_129 : decode b_M_tryOne 129 = .ok (.lload 16, 2) := dd_M_tryOne 80 (129, .lload 16, 2) rfl
theorem d_M_tryOne_131 : decode b_M_tryOne 131 = .ok (.lconst 0, 1) := dd_M_tryOne 81 (131, .lconst 0, 1) rfl
theorem d_M_tryOne_132 : decode b_M_tryOne 132 = .ok (.lcmp, 1) := dd_M_tryOne 82 (132, .lcmp, 1) rfl
theorem d_M_tryOne_133 : decode b_M_tryOne 133 = .ok (.ifCond .ne 7, 3) := dd_M_tryOne 83 (133, .ifCond .ne 7, 3) rfl
theorem d_M_tryOne_136 : decode b_M_tryOne 136 = .ok (.iconst 0, 1) := dd_M_tryOne 84 (136, .iconst 0, 1) rfl
theorem d_M_tryOne_137 : decode b_M_tryOne 137 = .ok (.goto 21, 3) := dd_M_tryOne 85 (137, .goto 21, 3) rfl
theorem d_M_tryOne_140 : decode b_M_tryOne 140 = .ok (.ldc2_w 81, 3) := dd_M_tryOne 86 (140, .ldc2_w 81, 3) rfl
theorem d_M_tryOne_143 : decode b_M_tryOne 143 = .ok (.lload 14, 2) := dd_M_tryOne 87 (143, .lload 14, 2) rfl
theorem d_M_tryOne_145 : decode b_M_tryOne 145 = .ok (.lmul, 1) := dd_M_tryOne 88 (145, .lmul, 1) rfl
theorem d_M_tryOne_146 : decode b_M_tryOne 146 = .ok (.lload 16, 2) := dd_M_tryOne 89 (146, .lload 16, 2) rfl
theorem d_M_tryOne_148 : decode b_M_tryOne 148 = .ok (.invokestatic 83, 3) := dd_M_tryOne 90 (148, .invokestatic 83, 3) rfl
theorem d_M_tryOne_151 : decode b_M_tryOne 151 = .ok (.bipush (-7), 2) := dd_M_tryOne 91 (151, .bipush (-7), 2) rfl
theorem d_M_tryOne_153 : decode b_M_tryOne 153 = .ok (.bipush 7, 2) := dd_M_tryOne 92 (153, .bipush 7, 2) rfl
theorem d_M_tryOne_155 : decode b_M_tryOne 155 = .ok (.invokestatic 65, 3) := dd_M_tryOne 93 (155, .invokestatic 65, 3) rfl
theorem d_M_tryOne_158 : decode b_M_tryOne 158 = .ok (.istore 18, 2) := dd_M_tryOne 94 (158, .istore 18, 2) rfl
theorem d_M_tryOne_160 : decode b_M_tryOne 160 = .ok (.lload 8, 2) := dd_M_tryOne 95 (160, .lload 8, 2) rfl
theorem d_M_tryOne_162 : decode b_M_tryOne 162 = .ok (.lstore 19, 2) := dd_M_tryOne 96 (162, .lstore 19, 2) rfl
theorem d_M_tryOne_164 : decode b_M_tryOne 164 = .ok (.iconst 0, 1) := dd_M_tryOne 97 (164, .iconst 0, 1) rfl
theorem d_M_tryOne_165 : decode b_M_tryOne 165 = .ok (.istore 21, 2) := dd_M_tryOne 98 (165, .istore 21, 2) rfl
theorem d_M_tryOne_167 : decode b_M_tryOne 167 = .ok (.iload 21, 2) := dd_M_tryOne 99 (167, .iload 21, 2) rfl
theorem d_M_tryOne_169 : decode b_M_tryOne 169 = .ok (.iload_n 1, 1) := dd_M_tryOne 100 (169, .iload_n 1, 1) rfl
theorem d_M_tryOne_170 : decode b_M_tryOne 170 = .ok (.iload_n 1, 1) := dd_M_tryOne 101 (170, .iload_n 1, 1) rfl
theorem d_M_tryOne_171 : decode b_M_tryOne 171 = .ok (.imul, 1) := dd_M_tryOne 102 (171, .imul, 1) rfl
theorem d_M_tryOne_172 : decode b_M_tryOne 172 = .ok (.if_icmp .ge 27, 3) := dd_M_tryOne 103 (172, .if_icmp .ge 27, 3) rfl
theorem d_M_tryOne_175 : decode b_M_tryOne 175 = .ok (.lload 19, 2) := dd_M_tryOne 104 (175, .lload 19, 2) rfl
theorem d_M_tryOne_177 : decode b_M_tryOne 177 = .ok (.iload 18, 2) := dd_M_tryOne 105 (177, .iload 18, 2) rfl
theorem d_M_tryOne_179 : decode b_M_tryOne 179 = .ok (.aload_n 0, 1) := dd_M_tryOne 106 (179, .aload_n 0, 1) rfl
theorem d_M_tryOne_180 : decode b_M_tryOne 180 = .ok (.getfield 37, 3) := dd_M_tryOne 107 (180, .getfield 37, 3) rfl
theorem d_M_tryOne_183 : decode b_M_tryOne 183 = .ok (.iload 21, 2) := dd_M_tryOne 108 (183, .iload 21, 2) rfl
theorem d_M_tryOne_185 : decode b_M_tryOne 185 = .ok (.iaload, 1) := dd_M_tryOne 109 (185, .iaload, 1) rfl
theorem d_M_tryOne_186 : decode b_M_tryOne 186 = .ok (.invokestatic 87, 3) := dd_M_tryOne 110 (186, .invokestatic 87, 3) rfl
theorem d_M_tryOne_189 : decode b_M_tryOne 189 = .ok (.i2l, 1) := dd_M_tryOne 111 (189, .i2l, 1) rfl
theorem d_M_tryOne_190 : decode b_M_tryOne 190 = .ok (.lsub, 1) := dd_M_tryOne 112 (190, .lsub, 1) rfl
theorem d_M_tryOne_191 : decode b_M_tryOne 191 = .ok (.lstore 19, 2) := dd_M_tryOne 113 (191, .lstore 19, 2) rfl
theorem d_M_tryOne_193 : decode b_M_tryOne 193 = .ok (.iinc 21 1, 3) := dd_M_tryOne 114 (193, .iinc 21 1, 3) rfl
theorem d_M_tryOne_196 : decode b_M_tryOne 196 = .ok (.goto (-29), 3) := dd_M_tryOne 115 (196, .goto (-29), 3) rfl
theorem d_M_tryOne_199 : decode b_M_tryOne 199 = .ok (.lload 19, 2) := dd_M_tryOne 116 (199, .lload 19, 2) rfl
theorem d_M_tryOne_201 : decode b_M_tryOne 201 = .ok (.lload 4, 2) := dd_M_tryOne 117 (201, .lload 4, 2) rfl
theorem d_M_tryOne_203 : decode b_M_tryOne 203 = .ok (.invokestatic 83, 3) := dd_M_tryOne 118 (203, .invokestatic 83, 3) rfl
theorem d_M_tryOne_206 : decode b_M_tryOne 206 = .ok (.l2i, 1) := dd_M_tryOne 119 (206, .l2i, 1) rfl
theorem d_M_tryOne_207 : decode b_M_tryOne 207 = .ok (.istore 21, 2) := dd_M_tryOne 120 (207, .istore 21, 2) rfl
theorem d_M_tryOne_209 : decode b_M_tryOne 209 = .ok (.lconst 0, 1) := dd_M_tryOne 121 (209, .lconst 0, 1) rfl
theorem d_M_tryOne_210 : decode b_M_tryOne 210 = .ok (.lstore 22, 2) := dd_M_tryOne 122 (210, .lstore 22, 2) rfl
theorem d_M_tryOne_212 : decode b_M_tryOne 212 = .ok (.iconst 0, 1) := dd_M_tryOne 123 (212, .iconst 0, 1) rfl
theorem d_M_tryOne_213 : decode b_M_tryOne 213 = .ok (.istore 24, 2) := dd_M_tryOne 124 (213, .istore 24, 2) rfl
theorem d_M_tryOne_215 : decode b_M_tryOne 215 = .ok (.iload 24, 2) := dd_M_tryOne 125 (215, .iload 24, 2) rfl
theorem d_M_tryOne_217 : decode b_M_tryOne 217 = .ok (.iload_n 1, 1) := dd_M_tryOne 126 (217, .iload_n 1, 1) rfl
theorem d_M_tryOne_218 : decode b_M_tryOne 218 = .ok (.iload_n 1, 1) := dd_M_tryOne 127 (218, .iload_n 1, 1) rfl
theorem d_M_tryOne_219 : decode b_M_tryOne 219 = .ok (.imul, 1) := dd_M_tryOne 128 (219, .imul, 1) rfl
theorem d_M_tryOne_220 : decode b_M_tryOne 220 = .ok (.if_icmp .ge 45, 3) := dd_M_tryOne 129 (220, .if_icmp .ge 45, 3) rfl
theorem d_M_tryOne_223 : decode b_M_tryOne 223 = .ok (.aload_n 0, 1) := dd_M_tryOne 130 (223, .aload_n 0, 1) rfl
theorem d_M_tryOne_224 : decode b_M_tryOne 224 = .ok (.getfield 40, 3) := dd_M_tryOne 131 (224, .getfield 40, 3) rfl
theorem d_M_tryOne_227 : decode b_M_tryOne 227 = .ok (.iload 24, 2) := dd_M_tryOne 132 (227, .iload 24, 2) rfl
theorem d_M_tryOne_229 : decode b_M_tryOne 229 = .ok (.iaload, 1) := dd_M_tryOne 133 (229, .iaload, 1) rfl
theorem d_M_tryOne_230 : decode b_M_tryOne 230 = .ok (.iload 18, 2) := dd_M_tryOne 134 (230, .iload 18, 2) rfl
theorem d_M_tryOne_232 : decode b_M_tryOne 232 = .ok (.aload_n 0, 1) := dd_M_tryOne 135 (232, .aload_n 0, 1) rfl
theorem d_M_tryOne_233 : decode b_M_tryOne 233 = .ok (.getfield 37, 3) := dd_M_tryOne 136 (233, .getfield 37, 3) rfl
theorem d_M_tryOne_236 : decode b_M_tryOne 236 = .ok (.iload 24, 2) := dd_M_tryOne 137 (236, .iload 24, 2) rfl
theorem d_M_tryOne_238 : decode b_M_tryOne 238 = .ok (.iaload, 1) := dd_M_tryOne 138 (238, .iaload, 1) rfl
theorem d_M_tryOne_239 : decode b_M_tryOne 239 = .ok (.invokestatic 87, 3) := dd_M_tryOne 139 (239, .invokestatic 87, 3) rfl
theorem d_M_tryOne_242 : decode b_M_tryOne 242 = .ok (.isub, 1) := dd_M_tryOne 140 (242, .isub, 1) rfl
theorem d_M_tryOne_243 : decode b_M_tryOne 243 = .ok (.iload 21, 2) := dd_M_tryOne 141 (243, .iload 21, 2) rfl
theorem d_M_tryOne_245 : decode b_M_tryOne 245 = .ok (.isub, 1) := dd_M_tryOne 142 (245, .isub, 1) rfl
theorem d_M_tryOne_246 : decode b_M_tryOne 246 = .ok (.i2l, 1) := dd_M_tryOne 143 (246, .i2l, 1) rfl
theorem d_M_tryOne_247 : decode b_M_tryOne 247 = .ok (.lstore 25, 2) := dd_M_tryOne 144 (247, .lstore 25, 2) rfl
theorem d_M_tryOne_249 : decode b_M_tryOne 249 = .ok (.lload 22, 2) := dd_M_tryOne 145 (249, .lload 22, 2) rfl
theorem d_M_tryOne_251 : decode b_M_tryOne 251 = .ok (.lload 25, 2) := dd_M_tryOne 146 (251, .lload 25, 2) rfl
theorem d_M_tryOne_253 : decode b_M_tryOne 253 = .ok (.lload 25, 2) := dd_M_tryOne 147 (253, .lload 25, 2) rfl
theorem d_M_tryOne_255 : decode b_M_tryOne 255 = .ok (.lmul, 1) := dd_M_tryOne 148 (255, .lmul, 1) rfl
theorem d_M_tryOne_256 : decode b_M_tryOne 256 = .ok (.ladd, 1) := dd_M_tryOne 149 (256, .ladd, 1) rfl
theorem d_M_tryOne_257 : decode b_M_tryOne 257 = .ok (.lstore 22, 2) := dd_M_tryOne 150 (257, .lstore 22, 2) rfl
theorem d_M_tryOne_259 : decode b_M_tryOne 259 = .ok (.iinc 24 1, 3) := dd_M_tryOne 151 (259, .iinc 24 1, 3) rfl
theorem d_M_tryOne_262 : decode b_M_tryOne 262 = .ok (.goto (-47), 3) := dd_M_tryOne 152 (262, .goto (-47), 3) rfl
theorem d_M_tryOne_265 : decode b_M_tryOne 265 = .ok (.aload_n 0, 1) := dd_M_tryOne 153 (265, .aload_n 0, 1) rfl
theorem d_M_tryOne_266 : decode b_M_tryOne 266 = .ok (.getfield 91, 3) := dd_M_tryOne 154 (266, .getfield 91, 3) rfl
theorem d_M_tryOne_269 : decode b_M_tryOne 269 = .ok (.lconst 0, 1) := dd_M_tryOne 155 (269, .lconst 0, 1) rfl
theorem d_M_tryOne_270 : decode b_M_tryOne 270 = .ok (.lcmp, 1) := dd_M_tryOne 156 (270, .lcmp, 1) rfl
theorem d_M_tryOne_271 : decode b_M_tryOne 271 = .ok (.ifCond .lt 13, 3) := dd_M_tryOne 157 (271, .ifCond .lt 13, 3) rfl
theorem d_M_tryOne_274 : decode b_M_tryOne 274 = .ok (.lload 22, 2) := dd_M_tryOne 158 (274, .lload 22, 2) rfl
theorem d_M_tryOne_276 : decode b_M_tryOne 276 = .ok (.aload_n 0, 1) := dd_M_tryOne 159 (276, .aload_n 0, 1) rfl
theorem d_M_tryOne_277 : decode b_M_tryOne 277 = .ok (.getfield 91, 3) := dd_M_tryOne 160 (277, .getfield 91, 3) rfl
theorem d_M_tryOne_280 : decode b_M_tryOne 280 = .ok (.lcmp, 1) := dd_M_tryOne 161 (280, .lcmp, 1) rfl
theorem d_M_tryOne_281 : decode b_M_tryOne 281 = .ok (.ifCond .ge 39, 3) := dd_M_tryOne 162 (281, .ifCond .ge 39, 3) rfl
theorem d_M_tryOne_284 : decode b_M_tryOne 284 = .ok (.aload_n 0, 1) := dd_M_tryOne 163 (284, .aload_n 0, 1) rfl
theorem d_M_tryOne_285 : decode b_M_tryOne 285 = .ok (.lload 22, 2) := dd_M_tryOne 164 (285, .lload 22, 2) rfl
theorem d_M_tryOne_287 : decode b_M_tryOne 287 = .ok (.putfield 91, 3) := dd_M_tryOne 165 (287, .putfield 91, 3) rfl
theorem d_M_tryOne_290 : decode b_M_tryOne 290 = .ok (.aload_n 0, 1) := dd_M_tryOne 166 (290, .aload_n 0, 1) rfl
theorem d_M_tryOne_291 : decode b_M_tryOne 291 = .ok (.getfield 43, 3) := dd_M_tryOne 167 (291, .getfield 43, 3) rfl
theorem d_M_tryOne_294 : decode b_M_tryOne 294 = .ok (.iconst 0, 1) := dd_M_tryOne 168 (294, .iconst 0, 1) rfl
theorem d_M_tryOne_295 : decode b_M_tryOne 295 = .ok (.iload_n 2, 1) := dd_M_tryOne 169 (295, .iload_n 2, 1) rfl
theorem d_M_tryOne_296 : decode b_M_tryOne 296 = .ok (.iastore, 1) := dd_M_tryOne 170 (296, .iastore, 1) rfl
theorem d_M_tryOne_297 : decode b_M_tryOne 297 = .ok (.aload_n 0, 1) := dd_M_tryOne 171 (297, .aload_n 0, 1) rfl
theorem d_M_tryOne_298 : decode b_M_tryOne 298 = .ok (.getfield 43, 3) := dd_M_tryOne 172 (298, .getfield 43, 3) rfl
theorem d_M_tryOne_301 : decode b_M_tryOne 301 = .ok (.iconst 1, 1) := dd_M_tryOne 173 (301, .iconst 1, 1) rfl
theorem d_M_tryOne_302 : decode b_M_tryOne 302 = .ok (.iload_n 3, 1) := dd_M_tryOne 174 (302, .iload_n 3, 1) rfl
theorem d_M_tryOne_303 : decode b_M_tryOne 303 = .ok (.iastore, 1) := dd_M_tryOne 175 (303, .iastore, 1) rfl
theorem d_M_tryOne_304 : decode b_M_tryOne 304 = .ok (.aload_n 0, 1) := dd_M_tryOne 176 (304, .aload_n 0, 1) rfl
theorem d_M_tryOne_305 : decode b_M_tryOne 305 = .ok (.getfield 43, 3) := dd_M_tryOne 177 (305, .getfield 43, 3) rfl
theorem d_M_tryOne_308 : decode b_M_tryOne 308 = .ok (.iconst 2, 1) := dd_M_tryOne 178 (308, .iconst 2, 1) rfl
theorem d_M_tryOne_309 : decode b_M_tryOne 309 = .ok (.iload 18, 2) := dd_M_tryOne 179 (309, .iload 18, 2) rfl
theorem d_M_tryOne_311 : decode b_M_tryOne 311 = .ok (.iastore, 1) := dd_M_tryOne 180 (311, .iastore, 1) rfl
theorem d_M_tryOne_312 : decode b_M_tryOne 312 = .ok (.aload_n 0, 1) := dd_M_tryOne 181 (312, .aload_n 0, 1) rfl
theorem d_M_tryOne_313 : decode b_M_tryOne 313 = .ok (.getfield 43, 3) := dd_M_tryOne 182 (313, .getfield 43, 3) rfl
theorem d_M_tryOne_316 : decode b_M_tryOne 316 = .ok (.iconst 3, 1) := dd_M_tryOne 183 (316, .iconst 3, 1) rfl
theorem d_M_tryOne_317 : decode b_M_tryOne 317 = .ok (.iload 21, 2) := dd_M_tryOne 184 (317, .iload 21, 2) rfl
theorem d_M_tryOne_319 : decode b_M_tryOne 319 = .ok (.iastore, 1) := dd_M_tryOne 185 (319, .iastore, 1) rfl
theorem d_M_tryOne_320 : decode b_M_tryOne 320 = .ok (.return_, 1) := dd_M_tryOne 186 (320, .return_, 1) rfl
