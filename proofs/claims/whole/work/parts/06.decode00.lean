theorem d_F_paint_0 : decode b_F_paint 0 = .ok (.iconst 0, 1) := by decide +kernel
theorem d_F_paint_1 : decode b_F_paint 1 = .ok (.istore 4, 2) := by decide +kernel
theorem d_F_paint_3 : decode b_F_paint 3 = .ok (.iconst 0, 1) := by decide +kernel
theorem d_F_paint_4 : decode b_F_paint 4 = .ok (.istore 5, 2) := by decide +kernel
theorem d_F_paint_6 : decode b_F_paint 6 = .ok (.iload 5, 2) := by decide +kernel
theorem d_F_paint_8 : decode b_F_paint 8 = .ok (.aload_n 0, 1) := by decide +kernel
theorem d_F_paint_9 : decode b_F_paint 9 = .ok (.getfield 16, 3) := by decide +kernel
theorem d_F_paint_12 : decode b_F_paint 12 = .ok (.if_icmp .ge 89, 3) := by decide +kernel
theorem d_F_paint_15 : decode b_F_paint 15 = .ok (.iconst 0, 1) := by decide +kernel
theorem d_F_paint_16 : decode b_F_paint 16 = .ok (.istore 6, 2) := by decide +kernel
theorem d_F_paint_18 : decode b_F_paint 18 = .ok (.iload 6, 2) := by decide +kernel
theorem d_F_paint_20 : decode b_F_paint 20 = .ok (.aload_n 0, 1) := by decide +kernel
theorem d_F_paint_21 : decode b_F_paint 21 = .ok (.getfield 16, 3) := by decide +kernel
theorem d_F_paint_24 : decode b_F_paint 24 = .ok (.if_icmp .ge 71, 3) := by decide +kernel
theorem d_F_paint_27 : decode b_F_paint 27 = .ok (.iload_n 1, 1) := by decide +kernel
theorem d_F_paint_28 : decode b_F_paint 28 = .ok (.i2l, 1) := by decide +kernel
theorem d_F_paint_29 : decode b_F_paint 29 = .ok (.iload_n 2, 1) := by decide +kernel
theorem d_F_paint_30 : decode b_F_paint 30 = .ok (.i2l, 1) := by decide +kernel
theorem d_F_paint_31 : decode b_F_paint 31 = .ok (.iload 6, 2) := by decide +kernel
theorem d_F_paint_33 : decode b_F_paint 33 = .ok (.i2l, 1) := by decide +kernel
theorem d_F_paint_34 : decode b_F_paint 34 = .ok (.lmul, 1) := by decide +kernel
theorem d_F_paint_35 : decode b_F_paint 35 = .ok (.ladd, 1) := by decide +kernel
theorem d_F_paint_36 : decode b_F_paint 36 = .ok (.iload_n 3, 1) := by decide +kernel
theorem d_F_paint_37 : decode b_F_paint 37 = .ok (.i2l, 1) := by decide +kernel
theorem d_F_paint_38 : decode b_F_paint 38 = .ok (.iload 5, 2) := by decide +kernel
theorem d_F_paint_40 : decode b_F_paint 40 = .ok (.i2l, 1) := by decide +kernel
theorem d_F_paint_41 : decode b_F_paint 41 = .ok (.lmul, 1) := by decide +kernel
theorem d_F_paint_42 : decode b_F_paint 42 = .ok (.ladd, 1) := by decide +kernel
theorem d_F_paint_43 : decode b_F_paint 43 = .ok (.lstore 7, 2) := by decide +kernel
theorem d_F_paint_45 : decode b_F_paint 45 = .ok (.lload 7, 2) := by decide +kernel
theorem d_F_paint_47 : decode b_F_paint 47 = .ok (.lconst 0, 1) := by decide +kernel
theorem d_F_paint_48 : decode b_F_paint 48 = .ok (.ldc2_w 104, 3) := by decide +kernel
theorem d_F_paint_51 : decode b_F_paint 51 = .ok (.invokestatic 106, 3) := by decide +kernel
theorem d_F_paint_54 : decode b_F_paint 54 = .ok (.l2i, 1) := by decide +kernel
theorem d_F_paint_55 : decode b_F_paint 55 = .ok (.istore 9, 2) := by decide +kernel
theorem d_F_paint_57 : decode b_F_paint 57 = .ok (.iload 9, 2) := by decide +kernel
theorem d_F_paint_59 : decode b_F_paint 59 = .ok (.aload_n 0, 1) := by decide +kernel
theorem d_F_paint_60 : decode b_F_paint 60 = .ok (.getfield 27, 3) := by decide +kernel
theorem d_F_paint_63 : decode b_F_paint 63 = .ok (.iload 6, 2) := by decide +kernel
theorem d_F_paint_65 : decode b_F_paint 65 = .ok (.iload 5, 2) := by decide +kernel
theorem d_F_paint_67 : decode b_F_paint 67 = .ok (.invokevirtual 97, 3) := by decide +kernel
theorem d_F_paint_70 : decode b_F_paint 70 = .ok (.if_icmp .eq 6, 3) := by decide +kernel
theorem d_F_paint_73 : decode b_F_paint 73 = .ok (.iinc 4 1, 3) := by decide +kernel
theorem d_F_paint_76 : decode b_F_paint 76 = .ok (.aload_n 0, 1) := by decide +kernel
theorem d_F_paint_77 : decode b_F_paint 77 = .ok (.getfield 27, 3) := by decide +kernel
theorem d_F_paint_80 : decode b_F_paint 80 = .ok (.iload 6, 2) := by decide +kernel
theorem d_F_paint_82 : decode b_F_paint 82 = .ok (.iload 5, 2) := by decide +kernel
theorem d_F_paint_84 : decode b_F_paint 84 = .ok (.iload 9, 2) := by decide +kernel
theorem d_F_paint_86 : decode b_F_paint 86 = .ok (.invokevirtual 100, 3) := by decide +kernel
theorem d_F_paint_89 : decode b_F_paint 89 = .ok (.iinc 6 1, 3) := by decide +kernel
theorem d_F_paint_92 : decode b_F_paint 92 = .ok (.goto (-74), 3) := by decide +kernel
theorem d_F_paint_95 : decode b_F_paint 95 = .ok (.iinc 5 1, 3) := by decide +kernel
theorem d_F_paint_98 : decode b_F_paint 98 = .ok (.goto (-92), 3) := by decide +kernel
theorem d_F_paint_101 : decode b_F_paint 101 = .ok (.iload 4, 2) := by decide +kernel
theorem d_F_paint_103 : decode b_F_paint 103 = .ok (.ireturn, 1) := by decide +kernel
theorem d_F_brought_0 : decode b_F_brought 0 = .ok (.lload_n 2, 1) := by decide +kernel
theorem d_F_brought_1 : decode b_F_brought 1 = .ok (.lload_n 0, 1) := by decide +kernel
theorem d_F_brought_2 : decode b_F_brought 2 = .ok (.lload 4, 2) := by decide +kernel
theorem d_F_brought_4 : decode b_F_brought 4 = .ok (.invokestatic 290, 3) := by decide +kernel
theorem d_F_brought_7 : decode b_F_brought 7 = .ok (.invokestatic 293, 3) := by decide +kernel
theorem d_F_brought_10 : decode b_F_brought 10 = .ok (.lreturn, 1) := by decide +kernel
theorem d_G_sample_0 : decode b_G_sample 0 = .ok (.iload_n 1, 1) := by decide +kernel
theorem d_G_sample_1 : decode b_G_sample 1 = .ok (.ifCond .lt 39, 3) := by decide +kernel
theorem d_G_sample_4 : decode b_G_sample 4 = .ok (.iload_n 1, 1) := by decide +kernel
theorem d_G_sample_5 : decode b_G_sample 5 = .ok (.aload_n 0, 1) := by decide +kernel
theorem d_G_sample_6 : decode b_G_sample 6 = .ok (.getfield 24, 3) := by decide +kernel
theorem d_G_sample_9 : decode b_G_sample 9 = .ok (.if_icmp .ge 31, 3) := by decide +kernel
theorem d_G_sample_12 : decode b_G_sample 12 = .ok (.iload_n 2, 1) := by decide +kernel
theorem d_G_sample_13 : decode b_G_sample 13 = .ok (.ifCond .lt 27, 3) := by decide +kernel
theorem d_G_sample_16 : decode b_G_sample 16 = .ok (.iload_n 2, 1) := by decide +kernel
theorem d_G_sample_17 : decode b_G_sample 17 = .ok (.aload_n 0, 1) := by decide +kernel
theorem d_G_sample_18 : decode b_G_sample 18 = .ok (.getfield 24, 3) := by decide +kernel
theorem d_G_sample_21 : decode b_G_sample 21 = .ok (.if_icmp .ge 19, 3) := by decide +kernel
theorem d_G_sample_24 : decode b_G_sample 24 = .ok (.aload_n 0, 1) := by decide +kernel
theorem d_G_sample_25 : decode b_G_sample 25 = .ok (.getfield 27, 3) := by decide +kernel
theorem d_G_sample_28 : decode b_G_sample 28 = .ok (.iload_n 2, 1) := by decide +kernel
theorem d_G_sample_29 : decode b_G_sample 29 = .ok (.aload_n 0, 1) := by decide +kernel
theorem d_G_sample_30 : decode b_G_sample 30 = .ok (.getfield 24, 3) := by decide +kernel
theorem d_G_sample_33 : decode b_G_sample 33 = .ok (.imul, 1) := by decide +kernel
theorem d_G_sample_34 : decode b_G_sample 34 = .ok (.iload_n 1, 1) := by decide +kernel
theorem d_G_sample_35 : decode b_G_sample 35 = .ok (.iadd, 1) := by decide +kernel
theorem d_G_sample_36 : decode b_G_sample 36 = .ok (.iaload, 1) := by decide +kernel
theorem d_G_sample_37 : decode b_G_sample 37 = .ok (.goto 4, 3) := by decide +kernel
theorem d_G_sample_40 : decode b_G_sample 40 = .ok (.iconst 0, 1) := by decide +kernel
theorem d_G_sample_41 : decode b_G_sample 41 = .ok (.ireturn, 1) := by decide +kernel
theorem d_G_set_0 : decode b_G_set 0 = .ok (.aload_n 0, 1) := by decide +kernel
theorem d_G_set_1 : decode b_G_set 1 = .ok (.iload_n 1, 1) := by decide +kernel
theorem d_G_set_2 : decode b_G_set 2 = .ok (.iload_n 2, 1) := by decide +kernel
theorem d_G_set_3 : decode b_G_set 3 = .ok (.invokevirtual 31, 3) := by decide +kernel
theorem d_G_set_6 : decode b_G_set 6 = .ok (.ifCond .eq 17, 3) := by decide +kernel
theorem d_G_set_9 : decode b_G_set 9 = .ok (.aload_n 0, 1) := by decide +kernel
theorem d_G_set_10 : decode b_G_set 10 = .ok (.getfield 27, 3) := by decide +kernel
theorem d_G_set_13 : decode b_G_set 13 = .ok (.iload_n 2, 1) := by decide +kernel
theorem d_G_set_14 : decode b_G_set 14 = .ok (.aload_n 0, 1) := by decide +kernel
theorem d_G_set_15 : decode b_G_set 15 = .ok (.getfield 24, 3) := by decide +kernel
theorem d_G_set_18 : decode b_G_set 18 = .ok (.imul, 1) := by decide +kernel
theorem d_G_set_19 : decode b_G_set 19 = .ok (.iload_n 1, 1) := by decide +kernel
theorem d_G_set_20 : decode b_G_set 20 = .ok (.iadd, 1) := by decide +kernel
theorem d_G_set_21 : decode b_G_set 21 = .ok (.iload_n 3, 1) := by decide +kernel
theorem d_G_set_22 : decode b_G_set 22 = .ok (.iastore, 1) := by decide +kernel
theorem d_G_set_23 : decode b_G_set 23 = .ok (.return_, 1) := by decide +kernel
theorem d_G_has_0 : decode b_G_has 0 = .ok (.iload_n 1, 1) := by decide +kernel
theorem d_G_has_1 : decode b_G_has 1 = .ok (.ifCond .lt 27, 3) := by decide +kernel
theorem d_G_has_4 : decode b_G_has 4 = .ok (.iload_n 1, 1) := by decide +kernel
theorem d_G_has_5 : decode b_G_has 5 = .ok (.aload_n 0, 1) := by decide +kernel
theorem d_G_has_6 : decode b_G_has 6 = .ok (.getfield 24, 3) := by decide +kernel
theorem d_G_has_9 : decode b_G_has 9 = .ok (.if_icmp .ge 19, 3) := by decide +kernel
theorem d_G_has_12 : decode b_G_has 12 = .ok (.iload_n 2, 1) := by decide +kernel
theorem d_G_has_13 : decode b_G_has 13 = .ok (.ifCond .lt 15, 3) := by decide +kernel
theorem d_G_has_16 : decode b_G_has 16 = .ok (.iload_n 2, 1) := by decide +kernel
theorem d_G_has_17 : decode b_G_has 17 = .ok (.aload_n 0, 1) := by decide +kernel
theorem d_G_has_18 : decode b_G_has 18 = .ok (.getfield 24, 3) := by decide +kernel
theorem d_G_has_21 : decode b_G_has 21 = .ok (.if_icmp .ge 7, 3) := by decide +kernel
theorem d_G_has_24 : decode b_G_has 24 = .ok (.iconst 1, 1) := by decide +kernel
theorem d_G_has_25 : decode b_G_has 25 = .ok (.goto 4, 3) := by decide +kernel
theorem d_G_has_28 : decode b_G_has 28 = .ok (.iconst 0, 1) := by decide +kernel
theorem d_G_has_29 : decode b_G_has 29 = .ok (.ireturn, 1) := by decide +kernel
theorem d_F_read_0 : decode b_F_read 0 = .ok (.aload_n 0, 1) := by decide +kernel
theorem d_F_read_1 : decode b_F_read 1 = .ok (.iconst 0, 1) := by decide +kernel
theorem d_F_read_2 : decode b_F_read 2 = .ok (.invokevirtual 164, 3) := by decide +kernel
theorem d_F_read_5 : decode b_F_read 5 = .ok (.istore_n 1, 1) := by decide +kernel
theorem d_F_read_6 : decode b_F_read 6 = .ok (.iload_n 1, 1) := by decide +kernel
theorem d_F_read_7 : decode b_F_read 7 = .ok (.iconst (-1), 1) := by decide +kernel
theorem d_F_read_8 : decode b_F_read 8 = .ok (.if_icmp .ne 16, 3) := by decide +kernel
theorem d_F_read_11 : decode b_F_read 11 = .ok (.aload_n 0, 1) := by decide +kernel
theorem d_F_read_12 : decode b_F_read 12 = .ok (.getfield 60, 3) := by decide +kernel
theorem d_F_read_15 : decode b_F_read 15 = .ok (.invokevirtual 118, 3) := by decide +kernel
theorem d_F_read_18 : decode b_F_read 18 = .ok (.aload_n 0, 1) := by decide +kernel
theorem d_F_read_19 : decode b_F_read 19 = .ok (.iconst 1, 1) := by decide +kernel
theorem d_F_read_20 : decode b_F_read 20 = .ok (.invokevirtual 164, 3) := by decide +kernel
theorem d_F_read_23 : decode b_F_read 23 = .ok (.pop, 1) := by decide +kernel
theorem d_F_read_24 : decode b_F_read 24 = .ok (.aload_n 0, 1) := by decide +kernel
theorem d_F_read_25 : decode b_F_read 25 = .ok (.getfield 78, 3) := by decide +kernel
theorem d_F_read_28 : decode b_F_read 28 = .ok (.invokevirtual 121, 3) := by decide +kernel
theorem d_F_read_31 : decode b_F_read 31 = .ok (.iload_n 1, 1) := by decide +kernel
theorem d_F_read_32 : decode b_F_read 32 = .ok (.iconst (-1), 1) := by decide +kernel
theorem d_F_read_33 : decode b_F_read 33 = .ok (.if_icmp .ne 13, 3) := by decide +kernel
theorem d_F_read_36 : decode b_F_read 36 = .ok (.aload_n 0, 1) := by decide +kernel
theorem d_F_read_37 : decode b_F_read 37 = .ok (.getfield 60, 3) := by decide +kernel
theorem d_F_read_40 : decode b_F_read 40 = .ok (.getfield 136, 3) := by decide +kernel
theorem d_F_read_43 : decode b_F_read 43 = .ok (.goto 6, 3) := by decide +kernel
theorem d_F_read_46 : decode b_F_read 46 = .ok (.iconst (-1), 1) := by decide +kernel
theorem d_F_read_47 : decode b_F_read 47 = .ok (.iload_n 1, 1) := by decide +kernel
theorem d_F_read_48 : decode b_F_read 48 = .ok (.isub, 1) := by decide +kernel
theorem d_F_read_49 : decode b_F_read 49 = .ok (.ireturn, 1) := by decide +kernel
theorem d_F_readWaiting_0 : decode b_F_readWaiting 0 = .ok (.aload_n 0, 1) := by decide +kernel
theorem d_F_readWaiting_1 : decode b_F_readWaiting 1 = .ok (.getfield 78, 3) := by decide +kernel
theorem d_F_readWaiting_4 : decode b_F_readWaiting 4 = .ok (.invokevirtual 256, 3) := by decide +kernel
theorem d_F_readWaiting_7 : decode b_F_readWaiting 7 = .ok (.aload_n 0, 1) := by decide +kernel
theorem d_F_readWaiting_8 : decode b_F_readWaiting 8 = .ok (.getfield 78, 3) := by decide +kernel
theorem d_F_readWaiting_11 : decode b_F_readWaiting 11 = .ok (.iconst 3, 1) := by decide +kernel
theorem d_F_readWaiting_12 : decode b_F_readWaiting 12 = .ok (.invokevirtual 259, 3) := by decide +kernel
theorem d_F_readWaiting_15 : decode b_F_readWaiting 15 = .ok (.istore_n 2, 1) := by decide +kernel
theorem d_F_readWaiting_16 : decode b_F_readWaiting 16 = .ok (.iload_n 2, 1) := by decide +kernel
theorem d_F_readWaiting_17 : decode b_F_readWaiting 17 = .ok (.iconst (-1), 1) := by decide +kernel
theorem d_F_readWaiting_18 : decode b_F_readWaiting 18 = .ok (.if_icmp .ne 5, 3) := by decide +kernel
theorem d_F_readWaiting_21 : decode b_F_readWaiting 21 = .ok (.iconst 3, 1) := by decide +kernel
theorem d_F_readWaiting_22 : decode b_F_readWaiting 22 = .ok (.ireturn, 1) := by decide +kernel
theorem d_F_readWaiting_23 : decode b_F_readWaiting 23 = .ok (.iconst 1, 1) := by decide +kernel
theorem d_F_readWaiting_24 : decode b_F_readWaiting 24 = .ok (.iload_n 2, 1) := by decide +kernel
theorem d_F_readWaiting_25 : decode b_F_readWaiting 25 = .ok (.ishl, 1) := by decide +kernel
theorem d_F_readWaiting_26 : decode b_F_readWaiting 26 = .ok (.istore_n 3, 1) := by decide +kernel
theorem d_F_readWaiting_27 : decode b_F_readWaiting 27 = .ok (.iload_n 3, 1) := by decide +kernel
theorem d_F_readWaiting_28 : decode b_F_readWaiting 28 = .ok (.invokestatic 110, 3) := by decide +kernel
theorem d_F_readWaiting_31 : decode b_F_readWaiting 31 = .ok (.ifCond .eq 13, 3) := by decide +kernel
theorem d_F_readWaiting_34 : decode b_F_readWaiting 34 = .ok (.iload_n 3, 1) := by decide +kernel
theorem d_F_readWaiting_35 : decode b_F_readWaiting 35 = .ok (.aload_n 0, 1) := by decide +kernel
theorem d_F_readWaiting_36 : decode b_F_readWaiting 36 = .ok (.getfield 16, 3) := by decide +kernel
theorem d_F_readWaiting_39 : decode b_F_readWaiting 39 = .ok (.iconst 2, 1) := by decide +kernel
theorem d_F_readWaiting_40 : decode b_F_readWaiting 40 = .ok (.idiv, 1) := by decide +kernel
theorem d_F_readWaiting_41 : decode b_F_readWaiting 41 = .ok (.if_icmp .le 5, 3) := by decide +kernel
theorem d_F_readWaiting_44 : decode b_F_readWaiting 44 = .ok (.iconst 0, 1) := by decide +kernel
theorem d_F_readWaiting_45 : decode b_F_readWaiting 45 = .ok (.ireturn, 1) := by decide +kernel
theorem d_F_readWaiting_46 : decode b_F_readWaiting 46 = .ok (.aload_n 0, 1) := by decide +kernel
theorem d_F_readWaiting_47 : decode b_F_readWaiting 47 = .ok (.iconst 0, 1) := by decide +kernel
theorem d_F_readWaiting_48 : decode b_F_readWaiting 48 = .ok (.iconst 0, 1) := by decide +kernel
theorem d_F_readWaiting_49 : decode b_F_readWaiting 49 = .ok (.aload_n 0, 1) := by decide +kernel
theorem d_F_readWaiting_50 : decode b_F_readWaiting 50 = .ok (.getfield 16, 3) := by decide +kernel
theorem d_F_readWaiting_53 : decode b_F_readWaiting 53 = .ok (.iconst 2, 1) := by decide +kernel
theorem d_F_readWaiting_54 : decode b_F_readWaiting 54 = .ok (.idiv, 1) := by decide +kernel
theorem d_F_readWaiting_55 : decode b_F_readWaiting 55 = .ok (.iload_n 3, 1) := by decide +kernel
theorem d_F_readWaiting_56 : decode b_F_readWaiting 56 = .ok (.iload_n 1, 1) := by decide +kernel
theorem d_F_readWaiting_57 : decode b_F_readWaiting 57 = .ok (.invokevirtual 262, 3) := by decide +kernel
theorem d_F_readWaiting_60 : decode b_F_readWaiting 60 = .ok (.istore 4, 2) := by decide +kernel
theorem d_F_readWaiting_62 : decode b_F_readWaiting 62 = .ok (.iload 4, 2) := by decide +kernel
theorem d_F_readWaiting_64 : decode b_F_readWaiting 64 = .ok (.iconst (-1), 1) := by decide +kernel
theorem d_F_readWaiting_65 : decode b_F_readWaiting 65 = .ok (.if_icmp .eq 6, 3) := by decide +kernel
theorem d_F_readWaiting_68 : decode b_F_readWaiting 68 = .ok (.iload 4, 2) := by decide +kernel
theorem d_F_readWaiting_70 : decode b_F_readWaiting 70 = .ok (.ireturn, 1) := by decide +kernel
theorem d_F_readWaiting_71 : decode b_F_readWaiting 71 = .ok (.aload_n 0, 1) := by decide +kernel
theorem d_F_readWaiting_72 : decode b_F_readWaiting 72 = .ok (.getfield 78, 3) := by decide +kernel
theorem d_F_readWaiting_75 : decode b_F_readWaiting 75 = .ok (.invokevirtual 266, 3) := by decide +kernel
theorem d_F_readWaiting_78 : decode b_F_readWaiting 78 = .ok (.ifCond .eq 7, 3) := by decide +kernel
theorem d_F_readWaiting_81 : decode b_F_readWaiting 81 = .ok (.iconst (-1), 1) := by decide +kernel
theorem d_F_readWaiting_82 : decode b_F_readWaiting 82 = .ok (.goto 4, 3) := by decide +kernel
theorem d_F_readWaiting_85 : decode b_F_readWaiting 85 = .ok (.iconst 4, 1) := by decide +kernel
theorem d_F_readWaiting_86 : decode b_F_readWaiting 86 = .ok (.ireturn, 1) := by decide +kernel
theorem d_B_rewind_0 : decode b_B_rewind 0 = .ok (.aload_n 0, 1) := by decide +kernel
theorem d_B_rewind_1 : decode b_B_rewind 1 = .ok (.iconst 0, 1) := by decide +kernel
theorem d_B_rewind_2 : decode b_B_rewind 2 = .ok (.putfield 28, 3) := by decide +kernel
theorem d_B_rewind_5 : decode b_B_rewind 5 = .ok (.return_, 1) := by decide +kernel
theorem d_B_take_0 : decode b_B_take 0 = .ok (.aload_n 0, 1) := by decide +kernel
theorem d_B_take_1 : decode b_B_take 1 = .ok (.getfield 24, 3) := by decide +kernel
theorem d_B_take_4 : decode b_B_take 4 = .ok (.aload_n 0, 1) := by decide +kernel
theorem d_B_take_5 : decode b_B_take 5 = .ok (.getfield 28, 3) := by decide +kernel
theorem d_B_take_8 : decode b_B_take 8 = .ok (.isub, 1) := by decide +kernel
theorem d_B_take_9 : decode b_B_take 9 = .ok (.iload_n 1, 1) := by decide +kernel
theorem d_B_take_10 : decode b_B_take 10 = .ok (.if_icmp .ge 5, 3) := by decide +kernel
theorem d_B_take_13 : decode b_B_take 13 = .ok (.iconst (-1), 1) := by decide +kernel
theorem d_B_take_14 : decode b_B_take 14 = .ok (.ireturn, 1) := by decide +kernel
theorem d_B_take_15 : decode b_B_take 15 = .ok (.iconst 0, 1) := by decide +kernel
theorem d_B_take_16 : decode b_B_take 16 = .ok (.istore_n 2, 1) := by decide +kernel
theorem d_B_take_17 : decode b_B_take 17 = .ok (.iconst 0, 1) := by decide +kernel
theorem d_B_take_18 : decode b_B_take 18 = .ok (.istore_n 3, 1) := by decide +kernel
theorem d_B_take_19 : decode b_B_take 19 = .ok (.iload_n 3, 1) := by decide +kernel
theorem d_B_take_20 : decode b_B_take 20 = .ok (.iload_n 1, 1) := by decide +kernel
theorem d_B_take_21 : decode b_B_take 21 = .ok (.if_icmp .ge 24, 3) := by decide +kernel
theorem d_B_take_24 : decode b_B_take 24 = .ok (.iconst 2, 1) := by decide +kernel
theorem d_B_take_25 : decode b_B_take 25 = .ok (.iload_n 2, 1) := by decide +kernel
theorem d_B_take_26 : decode b_B_take 26 = .ok (.imul, 1) := by decide +kernel
theorem d_B_take_27 : decode b_B_take 27 = .ok (.aload_n 0, 1) := by decide +kernel
theorem d_B_take_28 : decode b_B_take 28 = .ok (.aload_n 0, 1) := by decide +kernel
theorem d_B_take_29 : decode b_B_take 29 = .ok (.getfield 28, 3) := by decide +kernel
theorem d_B_take_32 : decode b_B_take 32 = .ok (.iload_n 3, 1) := by decide +kernel
theorem d_B_take_33 : decode b_B_take 33 = .ok (.iadd, 1) := by decide +kernel
theorem d_B_take_34 : decode b_B_take 34 = .ok (.invokevirtual 35, 3) := by decide +kernel
theorem d_B_take_37 : decode b_B_take 37 = .ok (.iadd, 1) := by decide +kernel
theorem d_B_take_38 : decode b_B_take 38 = .ok (.istore_n 2, 1) := by decide +kernel
theorem d_B_take_39 : decode b_B_take 39 = .ok (.iinc 3 1, 3) := by decide +kernel
theorem d_B_take_42 : decode b_B_take 42 = .ok (.goto (-23), 3) := by decide +kernel
theorem d_B_take_45 : decode b_B_take 45 = .ok (.aload_n 0, 1) := by decide +kernel
theorem d_B_take_46 : decode b_B_take 46 = .ok (.dup, 1) := by decide +kernel
theorem d_B_take_47 : decode b_B_take 47 = .ok (.getfield 28, 3) := by decide +kernel
theorem d_B_take_50 : decode b_B_take 50 = .ok (.iload_n 1, 1) := by decide +kernel
theorem d_B_take_51 : decode b_B_take 51 = .ok (.iadd, 1) := by decide +kernel
theorem d_B_take_52 : decode b_B_take 52 = .ok (.putfield 28, 3) := by decide +kernel
theorem d_B_take_55 : decode b_B_take 55 = .ok (.iload_n 2, 1) := by decide +kernel
theorem d_B_take_56 : decode b_B_take 56 = .ok (.ireturn, 1) := by decide +kernel
theorem d_B_bitAt_0 : decode b_B_bitAt 0 = .ok (.aload_n 0, 1) := by decide +kernel
theorem d_B_bitAt_1 : decode b_B_bitAt 1 = .ok (.iload_n 1, 1) := by decide +kernel
theorem d_B_bitAt_2 : decode b_B_bitAt 2 = .ok (.bipush 8, 2) := by decide +kernel
theorem d_B_bitAt_4 : decode b_B_bitAt 4 = .ok (.idiv, 1) := by decide +kernel
theorem d_B_bitAt_5 : decode b_B_bitAt 5 = .ok (.invokevirtual 39, 3) := by decide +kernel
theorem d_B_bitAt_8 : decode b_B_bitAt 8 = .ok (.bipush 7, 2) := by decide +kernel
theorem d_B_bitAt_10 : decode b_B_bitAt 10 = .ok (.iload_n 1, 1) := by decide +kernel
theorem d_B_bitAt_11 : decode b_B_bitAt 11 = .ok (.bipush 8, 2) := by decide +kernel
theorem d_B_bitAt_13 : decode b_B_bitAt 13 = .ok (.irem, 1) := by decide +kernel
theorem d_B_bitAt_14 : decode b_B_bitAt 14 = .ok (.isub, 1) := by decide +kernel
theorem d_B_bitAt_15 : decode b_B_bitAt 15 = .ok (.ishr, 1) := by decide +kernel
theorem d_B_bitAt_16 : decode b_B_bitAt 16 = .ok (.iconst 1, 1) := by decide +kernel
