theorem d_M_paint_17 : decode b_M_paint 17 = .ok (.aload_n 0, 1) := by decide +kernel
theorem d_M_paint_18 : decode b_M_paint 18 = .ok (.getfield 46, 3) := by decide +kernel
theorem d_M_paint_21 : decode b_M_paint 21 = .ok (.imul, 1) := by decide +kernel
theorem d_M_paint_22 : decode b_M_paint 22 = .ok (.if_icmp .ge 79, 3) := by decide +kernel
theorem d_M_paint_25 : decode b_M_paint 25 = .ok (.iload_n 2, 1) := by decide +kernel
theorem d_M_paint_26 : decode b_M_paint 26 = .ok (.i2l, 1) := by decide +kernel
theorem d_M_paint_27 : decode b_M_paint 27 = .ok (.iload 5, 2) := by decide +kernel
theorem d_M_paint_29 : decode b_M_paint 29 = .ok (.aload_n 0, 1) := by decide +kernel
theorem d_M_paint_30 : decode b_M_paint 30 = .ok (.getfield 46, 3) := by decide +kernel
theorem d_M_paint_33 : decode b_M_paint 33 = .ok (.irem, 1) := by decide +kernel
theorem d_M_paint_34 : decode b_M_paint 34 = .ok (.i2l, 1) := by decide +kernel
theorem d_M_paint_35 : decode b_M_paint 35 = .ok (.lmul, 1) := by decide +kernel
theorem d_M_paint_36 : decode b_M_paint 36 = .ok (.iload_n 3, 1) := by decide +kernel
theorem d_M_paint_37 : decode b_M_paint 37 = .ok (.i2l, 1) := by decide +kernel
theorem d_M_paint_38 : decode b_M_paint 38 = .ok (.iload 5, 2) := by decide +kernel
theorem d_M_paint_40 : decode b_M_paint 40 = .ok (.aload_n 0, 1) := by decide +kernel
theorem d_M_paint_41 : decode b_M_paint 41 = .ok (.getfield 46, 3) := by decide +kernel
theorem d_M_paint_44 : decode b_M_paint 44 = .ok (.idiv, 1) := by decide +kernel
theorem d_M_paint_45 : decode b_M_paint 45 = .ok (.i2l, 1) := by decide +kernel
theorem d_M_paint_46 : decode b_M_paint 46 = .ok (.lmul, 1) := by decide +kernel
theorem d_M_paint_47 : decode b_M_paint 47 = .ok (.ladd, 1) := by decide +kernel
theorem d_M_paint_48 : decode b_M_paint 48 = .ok (.iload_n 1, 1) := by decide +kernel
theorem d_M_paint_49 : decode b_M_paint 49 = .ok (.i2l, 1) := by decide +kernel
theorem d_M_paint_50 : decode b_M_paint 50 = .ok (.ladd, 1) := by decide +kernel
theorem d_M_paint_51 : decode b_M_paint 51 = .ok (.lstore 6, 2) := by decide +kernel
theorem d_M_paint_53 : decode b_M_paint 53 = .ok (.lload 6, 2) := by decide +kernel
theorem d_M_paint_55 : decode b_M_paint 55 = .ok (.iconst 0, 1) := by decide +kernel
theorem d_M_paint_56 : decode b_M_paint 56 = .ok (.sipush 255, 3) := by decide +kernel
theorem d_M_paint_59 : decode b_M_paint 59 = .ok (.invokestatic 65, 3) := by decide +kernel
theorem d_M_paint_62 : decode b_M_paint 62 = .ok (.istore 8, 2) := by decide +kernel
theorem d_M_paint_64 : decode b_M_paint 64 = .ok (.iload 4, 2) := by decide +kernel
theorem d_M_paint_66 : decode b_M_paint 66 = .ok (.iload 8, 2) := by decide +kernel
theorem d_M_paint_68 : decode b_M_paint 68 = .ok (.aload_n 0, 1) := by decide +kernel
theorem d_M_paint_69 : decode b_M_paint 69 = .ok (.getfield 7, 3) := by decide +kernel
theorem d_M_paint_72 : decode b_M_paint 72 = .ok (.iload 5, 2) := by decide +kernel
theorem d_M_paint_74 : decode b_M_paint 74 = .ok (.iaload, 1) := by decide +kernel
theorem d_M_paint_75 : decode b_M_paint 75 = .ok (.if_icmp .ne 7, 3) := by decide +kernel
theorem d_M_paint_78 : decode b_M_paint 78 = .ok (.iconst 0, 1) := by decide +kernel
theorem d_M_paint_79 : decode b_M_paint 79 = .ok (.goto 4, 3) := by decide +kernel
theorem d_M_paint_82 : decode b_M_paint 82 = .ok (.iconst 1, 1) := by decide +kernel
theorem d_M_paint_83 : decode b_M_paint 83 = .ok (.iadd, 1) := by decide +kernel
theorem d_M_paint_84 : decode b_M_paint 84 = .ok (.istore 4, 2) := by decide +kernel
theorem d_M_paint_86 : decode b_M_paint 86 = .ok (.aload_n 0, 1) := by decide +kernel
theorem d_M_paint_87 : decode b_M_paint 87 = .ok (.getfield 7, 3) := by decide +kernel
theorem d_M_paint_90 : decode b_M_paint 90 = .ok (.iload 5, 2) := by decide +kernel
theorem d_M_paint_92 : decode b_M_paint 92 = .ok (.iload 8, 2) := by decide +kernel
theorem d_M_paint_94 : decode b_M_paint 94 = .ok (.iastore, 1) := by decide +kernel
theorem d_M_paint_95 : decode b_M_paint 95 = .ok (.iinc 5 1, 3) := by decide +kernel
theorem d_M_paint_98 : decode b_M_paint 98 = .ok (.goto (-87), 3) := by decide +kernel
theorem d_M_paint_101 : decode b_M_paint 101 = .ok (.iload 4, 2) := by decide +kernel
theorem d_M_paint_103 : decode b_M_paint 103 = .ok (.ireturn, 1) := by decide +kernel
theorem d_M_brought_0 : decode b_M_brought 0 = .ok (.lload_n 0, 1) := by decide +kernel
theorem d_M_brought_1 : decode b_M_brought 1 = .ok (.iload_n 2, 1) := by decide +kernel
theorem d_M_brought_2 : decode b_M_brought 2 = .ok (.i2l, 1) := by decide +kernel
theorem d_M_brought_3 : decode b_M_brought 3 = .ok (.lcmp, 1) := by decide +kernel
theorem d_M_brought_4 : decode b_M_brought 4 = .ok (.ifCond .ge 7, 3) := by decide +kernel
theorem d_M_brought_7 : decode b_M_brought 7 = .ok (.iload_n 2, 1) := by decide +kernel
theorem d_M_brought_8 : decode b_M_brought 8 = .ok (.goto 16, 3) := by decide +kernel
theorem d_M_brought_11 : decode b_M_brought 11 = .ok (.lload_n 0, 1) := by decide +kernel
theorem d_M_brought_12 : decode b_M_brought 12 = .ok (.iload_n 3, 1) := by decide +kernel
theorem d_M_brought_13 : decode b_M_brought 13 = .ok (.i2l, 1) := by decide +kernel
theorem d_M_brought_14 : decode b_M_brought 14 = .ok (.lcmp, 1) := by decide +kernel
theorem d_M_brought_15 : decode b_M_brought 15 = .ok (.ifCond .le 7, 3) := by decide +kernel
theorem d_M_brought_18 : decode b_M_brought 18 = .ok (.iload_n 3, 1) := by decide +kernel
theorem d_M_brought_19 : decode b_M_brought 19 = .ok (.goto 5, 3) := by decide +kernel
theorem d_M_brought_22 : decode b_M_brought 22 = .ok (.lload_n 0, 1) := by decide +kernel
theorem d_M_brought_23 : decode b_M_brought 23 = .ok (.l2i, 1) := by decide +kernel
theorem d_M_brought_24 : decode b_M_brought 24 = .ok (.ireturn, 1) := by decide +kernel
theorem d_M_block_0 : decode b_M_block 0 = .ok (.aload_n 0, 1) := by decide +kernel
theorem d_M_block_1 : decode b_M_block 1 = .ok (.iload_n 1, 1) := by decide +kernel
theorem d_M_block_2 : decode b_M_block 2 = .ok (.i2l, 1) := by decide +kernel
theorem d_M_block_3 : decode b_M_block 3 = .ok (.lconst 0, 1) := by decide +kernel
theorem d_M_block_4 : decode b_M_block 4 = .ok (.aload_n 0, 1) := by decide +kernel
theorem d_M_block_5 : decode b_M_block 5 = .ok (.getfield 123, 3) := by decide +kernel
theorem d_M_block_8 : decode b_M_block 8 = .ok (.iconst 1, 1) := by decide +kernel
theorem d_M_block_9 : decode b_M_block 9 = .ok (.isub, 1) := by decide +kernel
theorem d_M_block_10 : decode b_M_block 10 = .ok (.i2l, 1) := by decide +kernel
theorem d_M_block_11 : decode b_M_block 11 = .ok (.invokestatic 55, 3) := by decide +kernel
theorem d_M_block_14 : decode b_M_block 14 = .ok (.ifCond .ne 7, 3) := by decide +kernel
theorem d_M_block_17 : decode b_M_block 17 = .ok (.iconst 1, 1) := by decide +kernel
theorem d_M_block_18 : decode b_M_block 18 = .ok (.goto 20, 3) := by decide +kernel
theorem d_M_block_21 : decode b_M_block 21 = .ok (.iload_n 2, 1) := by decide +kernel
theorem d_M_block_22 : decode b_M_block 22 = .ok (.i2l, 1) := by decide +kernel
theorem d_M_block_23 : decode b_M_block 23 = .ok (.lconst 0, 1) := by decide +kernel
theorem d_M_block_24 : decode b_M_block 24 = .ok (.ldc2_w 157, 3) := by decide +kernel
theorem d_M_block_27 : decode b_M_block 27 = .ok (.invokestatic 55, 3) := by decide +kernel
theorem d_M_block_30 : decode b_M_block 30 = .ok (.ifCond .ne 7, 3) := by decide +kernel
theorem d_M_block_33 : decode b_M_block 33 = .ok (.iconst 2, 1) := by decide +kernel
theorem d_M_block_34 : decode b_M_block 34 = .ok (.goto 4, 3) := by decide +kernel
theorem d_M_block_37 : decode b_M_block 37 = .ok (.iconst 0, 1) := by decide +kernel
theorem d_M_block_38 : decode b_M_block 38 = .ok (.putfield 50, 3) := by decide +kernel
theorem d_M_block_41 : decode b_M_block 41 = .ok (.aload_n 0, 1) := by decide +kernel
theorem d_M_block_42 : decode b_M_block 42 = .ok (.getfield 50, 3) := by decide +kernel
theorem d_M_block_45 : decode b_M_block 45 = .ok (.ifCond .le 7, 3) := by decide +kernel
theorem d_M_block_48 : decode b_M_block 48 = .ok (.iconst 0, 1) := by decide +kernel
theorem d_M_block_49 : decode b_M_block 49 = .ok (.goto 14, 3) := by decide +kernel
theorem d_M_block_52 : decode b_M_block 52 = .ok (.aload_n 0, 1) := by decide +kernel
theorem d_M_block_53 : decode b_M_block 53 = .ok (.getfield 16, 3) := by decide +kernel
theorem d_M_block_56 : decode b_M_block 56 = .ok (.bipush 8, 2) := by decide +kernel
theorem d_M_block_58 : decode b_M_block 58 = .ok (.iload_n 1, 1) := by decide +kernel
theorem d_M_block_59 : decode b_M_block 59 = .ok (.imul, 1) := by decide +kernel
theorem d_M_block_60 : decode b_M_block 60 = .ok (.iload_n 2, 1) := by decide +kernel
theorem d_M_block_61 : decode b_M_block 61 = .ok (.iadd, 1) := by decide +kernel
theorem d_M_block_62 : decode b_M_block 62 = .ok (.iaload, 1) := by decide +kernel
theorem d_M_block_63 : decode b_M_block 63 = .ok (.ireturn, 1) := by decide +kernel
theorem d_M_byteAt_0 : decode b_M_byteAt 0 = .ok (.aload_n 0, 1) := by decide +kernel
theorem d_M_byteAt_1 : decode b_M_byteAt 1 = .ok (.iload_n 1, 1) := by decide +kernel
theorem d_M_byteAt_2 : decode b_M_byteAt 2 = .ok (.i2l, 1) := by decide +kernel
theorem d_M_byteAt_3 : decode b_M_byteAt 3 = .ok (.lconst 0, 1) := by decide +kernel
theorem d_M_byteAt_4 : decode b_M_byteAt 4 = .ok (.aload_n 0, 1) := by decide +kernel
theorem d_M_byteAt_5 : decode b_M_byteAt 5 = .ok (.invokevirtual 159, 3) := by decide +kernel
theorem d_M_byteAt_8 : decode b_M_byteAt 8 = .ok (.iconst 1, 1) := by decide +kernel
theorem d_M_byteAt_9 : decode b_M_byteAt 9 = .ok (.isub, 1) := by decide +kernel
theorem d_M_byteAt_10 : decode b_M_byteAt 10 = .ok (.i2l, 1) := by decide +kernel
theorem d_M_byteAt_11 : decode b_M_byteAt 11 = .ok (.invokestatic 55, 3) := by decide +kernel
theorem d_M_byteAt_14 : decode b_M_byteAt 14 = .ok (.ifCond .eq 7, 3) := by decide +kernel
theorem d_M_byteAt_17 : decode b_M_byteAt 17 = .ok (.iconst 0, 1) := by decide +kernel
theorem d_M_byteAt_18 : decode b_M_byteAt 18 = .ok (.goto 4, 3) := by decide +kernel
theorem d_M_byteAt_21 : decode b_M_byteAt 21 = .ok (.iconst 1, 1) := by decide +kernel
theorem d_M_byteAt_22 : decode b_M_byteAt 22 = .ok (.putfield 50, 3) := by decide +kernel
theorem d_M_byteAt_25 : decode b_M_byteAt 25 = .ok (.aload_n 0, 1) := by decide +kernel
theorem d_M_byteAt_26 : decode b_M_byteAt 26 = .ok (.getfield 50, 3) := by decide +kernel
theorem d_M_byteAt_29 : decode b_M_byteAt 29 = .ok (.ifCond .le 7, 3) := by decide +kernel
theorem d_M_byteAt_32 : decode b_M_byteAt 32 = .ok (.iconst 0, 1) := by decide +kernel
theorem d_M_byteAt_33 : decode b_M_byteAt 33 = .ok (.goto 9, 3) := by decide +kernel
theorem d_M_byteAt_36 : decode b_M_byteAt 36 = .ok (.aload_n 0, 1) := by decide +kernel
theorem d_M_byteAt_37 : decode b_M_byteAt 37 = .ok (.getfield 19, 3) := by decide +kernel
theorem d_M_byteAt_40 : decode b_M_byteAt 40 = .ok (.iload_n 1, 1) := by decide +kernel
theorem d_M_byteAt_41 : decode b_M_byteAt 41 = .ok (.iaload, 1) := by decide +kernel
theorem d_M_byteAt_42 : decode b_M_byteAt 42 = .ok (.ireturn, 1) := by decide +kernel
theorem d_M_bytes_0 : decode b_M_bytes 0 = .ok (.aload_n 0, 1) := by decide +kernel
theorem d_M_bytes_1 : decode b_M_bytes 1 = .ok (.getfield 126, 3) := by decide +kernel
theorem d_M_bytes_4 : decode b_M_bytes 4 = .ok (.bipush 7, 2) := by decide +kernel
theorem d_M_bytes_6 : decode b_M_bytes 6 = .ok (.iadd, 1) := by decide +kernel
theorem d_M_bytes_7 : decode b_M_bytes 7 = .ok (.bipush 8, 2) := by decide +kernel
theorem d_M_bytes_9 : decode b_M_bytes 9 = .ok (.idiv, 1) := by decide +kernel
theorem d_M_bytes_10 : decode b_M_bytes 10 = .ok (.ireturn, 1) := by decide +kernel
theorem d_M_feed_0 : decode b_M_feed 0 = .ok (.aload_n 0, 1) := by decide +kernel
theorem d_M_feed_1 : decode b_M_feed 1 = .ok (.iload_n 1, 1) := by decide +kernel
theorem d_M_feed_2 : decode b_M_feed 2 = .ok (.i2l, 1) := by decide +kernel
theorem d_M_feed_3 : decode b_M_feed 3 = .ok (.lconst 0, 1) := by decide +kernel
theorem d_M_feed_4 : decode b_M_feed 4 = .ok (.ldc2_w 63, 3) := by decide +kernel
theorem d_M_feed_7 : decode b_M_feed 7 = .ok (.invokestatic 55, 3) := by decide +kernel
theorem d_M_feed_10 : decode b_M_feed 10 = .ok (.ifCond .ne 7, 3) := by decide +kernel
theorem d_M_feed_13 : decode b_M_feed 13 = .ok (.iconst 1, 1) := by decide +kernel
theorem d_M_feed_14 : decode b_M_feed 14 = .ok (.goto 18, 3) := by decide +kernel
theorem d_M_feed_17 : decode b_M_feed 17 = .ok (.aload_n 0, 1) := by decide +kernel
theorem d_M_feed_18 : decode b_M_feed 18 = .ok (.getfield 163, 3) := by decide +kernel
theorem d_M_feed_21 : decode b_M_feed 21 = .ok (.sipush 2000, 3) := by decide +kernel
theorem d_M_feed_24 : decode b_M_feed 24 = .ok (.if_icmp .ne 7, 3) := by decide +kernel
theorem d_M_feed_27 : decode b_M_feed 27 = .ok (.iconst 2, 1) := by decide +kernel
theorem d_M_feed_28 : decode b_M_feed 28 = .ok (.goto 4, 3) := by decide +kernel
theorem d_M_feed_31 : decode b_M_feed 31 = .ok (.iconst 0, 1) := by decide +kernel
theorem d_M_feed_32 : decode b_M_feed 32 = .ok (.putfield 50, 3) := by decide +kernel
theorem d_M_feed_35 : decode b_M_feed 35 = .ok (.aload_n 0, 1) := by decide +kernel
theorem d_M_feed_36 : decode b_M_feed 36 = .ok (.getfield 50, 3) := by decide +kernel
theorem d_M_feed_39 : decode b_M_feed 39 = .ok (.ifCond .le 5, 3) := by decide +kernel
theorem d_M_feed_42 : decode b_M_feed 42 = .ok (.iconst 0, 1) := by decide +kernel
theorem d_M_feed_43 : decode b_M_feed 43 = .ok (.ireturn, 1) := by decide +kernel
theorem d_M_feed_44 : decode b_M_feed 44 = .ok (.aload_n 0, 1) := by decide +kernel
theorem d_M_feed_45 : decode b_M_feed 45 = .ok (.getfield 22, 3) := by decide +kernel
theorem d_M_feed_48 : decode b_M_feed 48 = .ok (.aload_n 0, 1) := by decide +kernel
theorem d_M_feed_49 : decode b_M_feed 49 = .ok (.getfield 163, 3) := by decide +kernel
theorem d_M_feed_52 : decode b_M_feed 52 = .ok (.iload_n 1, 1) := by decide +kernel
theorem d_M_feed_53 : decode b_M_feed 53 = .ok (.iastore, 1) := by decide +kernel
theorem d_M_feed_54 : decode b_M_feed 54 = .ok (.aload_n 0, 1) := by decide +kernel
theorem d_M_feed_55 : decode b_M_feed 55 = .ok (.dup, 1) := by decide +kernel
theorem d_M_feed_56 : decode b_M_feed 56 = .ok (.getfield 163, 3) := by decide +kernel
theorem d_M_feed_59 : decode b_M_feed 59 = .ok (.iconst 1, 1) := by decide +kernel
theorem d_M_feed_60 : decode b_M_feed 60 = .ok (.iadd, 1) := by decide +kernel
theorem d_M_feed_61 : decode b_M_feed 61 = .ok (.putfield 163, 3) := by decide +kernel
theorem d_M_feed_64 : decode b_M_feed 64 = .ok (.aload_n 0, 1) := by decide +kernel
theorem d_M_feed_65 : decode b_M_feed 65 = .ok (.getfield 163, 3) := by decide +kernel
theorem d_M_feed_68 : decode b_M_feed 68 = .ok (.ireturn, 1) := by decide +kernel
theorem d_M_pass_0 : decode b_M_pass 0 = .ok (.aload_n 0, 1) := by decide +kernel
theorem d_M_pass_1 : decode b_M_pass 1 = .ok (.aload_n 0, 1) := by decide +kernel
theorem d_M_pass_2 : decode b_M_pass 2 = .ok (.getfield 163, 3) := by decide +kernel
theorem d_M_pass_5 : decode b_M_pass 5 = .ok (.aload_n 0, 1) := by decide +kernel
theorem d_M_pass_6 : decode b_M_pass 6 = .ok (.invokevirtual 159, 3) := by decide +kernel
theorem d_M_pass_9 : decode b_M_pass 9 = .ok (.iadd, 1) := by decide +kernel
theorem d_M_pass_10 : decode b_M_pass 10 = .ok (.sipush 2000, 3) := by decide +kernel
theorem d_M_pass_13 : decode b_M_pass 13 = .ok (.if_icmp .le 7, 3) := by decide +kernel
theorem d_M_pass_16 : decode b_M_pass 16 = .ok (.iconst 1, 1) := by decide +kernel
theorem d_M_pass_17 : decode b_M_pass 17 = .ok (.goto 4, 3) := by decide +kernel
theorem d_M_pass_20 : decode b_M_pass 20 = .ok (.iconst 0, 1) := by decide +kernel
theorem d_M_pass_21 : decode b_M_pass 21 = .ok (.putfield 50, 3) := by decide +kernel
theorem d_M_pass_24 : decode b_M_pass 24 = .ok (.iconst 0, 1) := by decide +kernel
theorem d_M_pass_25 : decode b_M_pass 25 = .ok (.istore_n 1, 1) := by decide +kernel
theorem d_M_pass_26 : decode b_M_pass 26 = .ok (.iload_n 1, 1) := by decide +kernel
theorem d_M_pass_27 : decode b_M_pass 27 = .ok (.aload_n 0, 1) := by decide +kernel
theorem d_M_pass_28 : decode b_M_pass 28 = .ok (.invokevirtual 159, 3) := by decide +kernel
theorem d_M_pass_31 : decode b_M_pass 31 = .ok (.if_icmp .ge 41, 3) := by decide +kernel
theorem d_M_pass_34 : decode b_M_pass 34 = .ok (.aload_n 0, 1) := by decide +kernel
theorem d_M_pass_35 : decode b_M_pass 35 = .ok (.getfield 50, 3) := by decide +kernel
theorem d_M_pass_38 : decode b_M_pass 38 = .ok (.ifCond .ne 34, 3) := by decide +kernel
theorem d_M_pass_41 : decode b_M_pass 41 = .ok (.aload_n 0, 1) := by decide +kernel
theorem d_M_pass_42 : decode b_M_pass 42 = .ok (.getfield 22, 3) := by decide +kernel
theorem d_M_pass_45 : decode b_M_pass 45 = .ok (.aload_n 0, 1) := by decide +kernel
theorem d_M_pass_46 : decode b_M_pass 46 = .ok (.getfield 163, 3) := by decide +kernel
theorem d_M_pass_49 : decode b_M_pass 49 = .ok (.aload_n 0, 1) := by decide +kernel
theorem d_M_pass_50 : decode b_M_pass 50 = .ok (.getfield 19, 3) := by decide +kernel
theorem d_M_pass_53 : decode b_M_pass 53 = .ok (.iload_n 1, 1) := by decide +kernel
theorem d_M_pass_54 : decode b_M_pass 54 = .ok (.iaload, 1) := by decide +kernel
theorem d_M_pass_55 : decode b_M_pass 55 = .ok (.iastore, 1) := by decide +kernel
theorem d_M_pass_56 : decode b_M_pass 56 = .ok (.aload_n 0, 1) := by decide +kernel
theorem d_M_pass_57 : decode b_M_pass 57 = .ok (.dup, 1) := by decide +kernel
theorem d_M_pass_58 : decode b_M_pass 58 = .ok (.getfield 163, 3) := by decide +kernel
theorem d_M_pass_61 : decode b_M_pass 61 = .ok (.iconst 1, 1) := by decide +kernel
theorem d_M_pass_62 : decode b_M_pass 62 = .ok (.iadd, 1) := by decide +kernel
theorem d_M_pass_63 : decode b_M_pass 63 = .ok (.putfield 163, 3) := by decide +kernel
theorem d_M_pass_66 : decode b_M_pass 66 = .ok (.iinc 1 1, 3) := by decide +kernel
theorem d_M_pass_69 : decode b_M_pass 69 = .ok (.goto (-43), 3) := by decide +kernel
theorem d_M_pass_72 : decode b_M_pass 72 = .ok (.aload_n 0, 1) := by decide +kernel
theorem d_M_pass_73 : decode b_M_pass 73 = .ok (.getfield 50, 3) := by decide +kernel
theorem d_M_pass_76 : decode b_M_pass 76 = .ok (.ifCond .le 7, 3) := by decide +kernel
theorem d_M_pass_79 : decode b_M_pass 79 = .ok (.iconst 0, 1) := by decide +kernel
theorem d_M_pass_80 : decode b_M_pass 80 = .ok (.goto 7, 3) := by decide +kernel
theorem d_M_pass_83 : decode b_M_pass 83 = .ok (.aload_n 0, 1) := by decide +kernel
theorem d_M_pass_84 : decode b_M_pass 84 = .ok (.getfield 163, 3) := by decide +kernel
theorem d_M_pass_87 : decode b_M_pass 87 = .ok (.ireturn, 1) := by decide +kernel
theorem d_M_at_0 : decode b_M_at 0 = .ok (.aload_n 0, 1) := by decide +kernel
theorem d_M_at_1 : decode b_M_at 1 = .ok (.iload_n 1, 1) := by decide +kernel
theorem d_M_at_2 : decode b_M_at 2 = .ok (.i2l, 1) := by decide +kernel
theorem d_M_at_3 : decode b_M_at 3 = .ok (.lconst 0, 1) := by decide +kernel
theorem d_M_at_4 : decode b_M_at 4 = .ok (.aload_n 0, 1) := by decide +kernel
theorem d_M_at_5 : decode b_M_at 5 = .ok (.getfield 185, 3) := by decide +kernel
theorem d_M_at_8 : decode b_M_at 8 = .ok (.iconst 1, 1) := by decide +kernel
theorem d_M_at_9 : decode b_M_at 9 = .ok (.isub, 1) := by decide +kernel
theorem d_M_at_10 : decode b_M_at 10 = .ok (.i2l, 1) := by decide +kernel
theorem d_M_at_11 : decode b_M_at 11 = .ok (.invokestatic 55, 3) := by decide +kernel
theorem d_M_at_14 : decode b_M_at 14 = .ok (.ifCond .eq 23, 3) := by decide +kernel
theorem d_M_at_17 : decode b_M_at 17 = .ok (.iload_n 2, 1) := by decide +kernel
theorem d_M_at_18 : decode b_M_at 18 = .ok (.i2l, 1) := by decide +kernel
theorem d_M_at_19 : decode b_M_at 19 = .ok (.lconst 0, 1) := by decide +kernel
theorem d_M_at_20 : decode b_M_at 20 = .ok (.aload_n 0, 1) := by decide +kernel
theorem d_M_at_21 : decode b_M_at 21 = .ok (.getfield 185, 3) := by decide +kernel
theorem d_M_at_24 : decode b_M_at 24 = .ok (.iconst 1, 1) := by decide +kernel
theorem d_M_at_25 : decode b_M_at 25 = .ok (.isub, 1) := by decide +kernel
theorem d_M_at_26 : decode b_M_at 26 = .ok (.i2l, 1) := by decide +kernel
theorem d_M_at_27 : decode b_M_at 27 = .ok (.invokestatic 55, 3) := by decide +kernel
theorem d_M_at_30 : decode b_M_at 30 = .ok (.ifCond .eq 7, 3) := by decide +kernel
theorem d_M_at_33 : decode b_M_at 33 = .ok (.iconst 0, 1) := by decide +kernel
theorem d_M_at_34 : decode b_M_at 34 = .ok (.goto 4, 3) := by decide +kernel
theorem d_M_at_37 : decode b_M_at 37 = .ok (.iconst 1, 1) := by decide +kernel
theorem d_M_at_38 : decode b_M_at 38 = .ok (.putfield 50, 3) := by decide +kernel
theorem d_M_at_41 : decode b_M_at 41 = .ok (.aload_n 0, 1) := by decide +kernel
theorem d_M_at_42 : decode b_M_at 42 = .ok (.getfield 50, 3) := by decide +kernel
theorem d_M_at_45 : decode b_M_at 45 = .ok (.ifCond .le 7, 3) := by decide +kernel
theorem d_M_at_48 : decode b_M_at 48 = .ok (.iconst 0, 1) := by decide +kernel
theorem d_M_at_49 : decode b_M_at 49 = .ok (.goto 16, 3) := by decide +kernel
