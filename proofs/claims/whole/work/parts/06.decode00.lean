theorem d_G_sum_0 : decode b_G_sum 0 = .ok (.iconst 0, 1) := by decide +kernel
theorem d_G_sum_1 : decode b_G_sum 1 = .ok (.istore 4, 2) := by decide +kernel
theorem d_G_sum_3 : decode b_G_sum 3 = .ok (.iconst 0, 1) := by decide +kernel
theorem d_G_sum_4 : decode b_G_sum 4 = .ok (.istore 5, 2) := by decide +kernel
theorem d_G_sum_6 : decode b_G_sum 6 = .ok (.iload 5, 2) := by decide +kernel
theorem d_G_sum_8 : decode b_G_sum 8 = .ok (.iload_n 3, 1) := by decide +kernel
theorem d_G_sum_9 : decode b_G_sum 9 = .ok (.if_icmp .ge 41, 3) := by decide +kernel
theorem d_G_sum_12 : decode b_G_sum 12 = .ok (.iconst 0, 1) := by decide +kernel
theorem d_G_sum_13 : decode b_G_sum 13 = .ok (.istore 6, 2) := by decide +kernel
theorem d_G_sum_15 : decode b_G_sum 15 = .ok (.iload 6, 2) := by decide +kernel
theorem d_G_sum_17 : decode b_G_sum 17 = .ok (.iload_n 3, 1) := by decide +kernel
theorem d_G_sum_18 : decode b_G_sum 18 = .ok (.if_icmp .ge 26, 3) := by decide +kernel
theorem d_G_sum_21 : decode b_G_sum 21 = .ok (.iload 4, 2) := by decide +kernel
theorem d_G_sum_23 : decode b_G_sum 23 = .ok (.aload_n 0, 1) := by decide +kernel
theorem d_G_sum_24 : decode b_G_sum 24 = .ok (.iload_n 1, 1) := by decide +kernel
theorem d_G_sum_25 : decode b_G_sum 25 = .ok (.iload 6, 2) := by decide +kernel
theorem d_G_sum_27 : decode b_G_sum 27 = .ok (.iadd, 1) := by decide +kernel
theorem d_G_sum_28 : decode b_G_sum 28 = .ok (.iload_n 2, 1) := by decide +kernel
theorem d_G_sum_29 : decode b_G_sum 29 = .ok (.iload 5, 2) := by decide +kernel
theorem d_G_sum_31 : decode b_G_sum 31 = .ok (.iadd, 1) := by decide +kernel
theorem d_G_sum_32 : decode b_G_sum 32 = .ok (.invokevirtual 49, 3) := by decide +kernel
theorem d_G_sum_35 : decode b_G_sum 35 = .ok (.iadd, 1) := by decide +kernel
theorem d_G_sum_36 : decode b_G_sum 36 = .ok (.istore 4, 2) := by decide +kernel
theorem d_G_sum_38 : decode b_G_sum 38 = .ok (.iinc 6 1, 3) := by decide +kernel
theorem d_G_sum_41 : decode b_G_sum 41 = .ok (.goto (-26), 3) := by decide +kernel
theorem d_G_sum_44 : decode b_G_sum 44 = .ok (.iinc 5 1, 3) := by decide +kernel
theorem d_G_sum_47 : decode b_G_sum 47 = .ok (.goto (-41), 3) := by decide +kernel
theorem d_G_sum_50 : decode b_G_sum 50 = .ok (.iload 4, 2) := by decide +kernel
theorem d_G_sum_52 : decode b_G_sum 52 = .ok (.ireturn, 1) := by decide +kernel
theorem d_G_sample_0 : decode b_G_sample 0 = .ok (.iload_n 1, 1) := by decide +kernel
theorem d_G_sample_1 : decode b_G_sample 1 = .ok (.ifCond .lt 39, 3) := by decide +kernel
theorem d_G_sample_4 : decode b_G_sample 4 = .ok (.iload_n 1, 1) := by decide +kernel
theorem d_G_sample_5 : decode b_G_sample 5 = .ok (.aload_n 0, 1) := by decide +kernel
theorem d_G_sample_6 : decode b_G_sample 6 = .ok (.getfield 24, 3) := by decide +kernel
theorem d_G_sample_9 : decode b_G_sample 9 = .ok (.if_icmp .ge 31, 3) := by decide +kernel
theorem d_G_sample_12 : decode b_G_sample 12 = .ok (.iload_n 2, 1) := by decide +kernel
theorem d_G_sample_13 : decode b_G_sample 13 = .ok (.ifCond .lt 27, 3) := by decide +kernel
theorem d_G_sample_16 : decode b_G_sample 16 = .ok (.iload_n 2, 1) := by decide +kernel
theorem d_G_sample_17 : decode b_G_sample 17 = .ok (.aload_n 0, 1) := by decide +kernel
theorem d_G_sample_18 : decode b_G_sample 18 = .ok (.getfield 24, 3) := by decide +kernel
theorem d_G_sample_21 : decode b_G_sample 21 = .ok (.if_icmp .ge 19, 3) := by decide +kernel
theorem d_G_sample_24 : decode b_G_sample 24 = .ok (.aload_n 0, 1) := by decide +kernel
theorem d_G_sample_25 : decode b_G_sample 25 = .ok (.getfield 27, 3) := by decide +kernel
theorem d_G_sample_28 : decode b_G_sample 28 = .ok (.iload_n 2, 1) := by decide +kernel
theorem d_G_sample_29 : decode b_G_sample 29 = .ok (.aload_n 0, 1) := by decide +kernel
theorem d_G_sample_30 : decode b_G_sample 30 = .ok (.getfield 24, 3) := by decide +kernel
theorem d_G_sample_33 : decode b_G_sample 33 = .ok (.imul, 1) := by decide +kernel
theorem d_G_sample_34 : decode b_G_sample 34 = .ok (.iload_n 1, 1) := by decide +kernel
theorem d_G_sample_35 : decode b_G_sample 35 = .ok (.iadd, 1) := by decide +kernel
theorem d_G_sample_36 : decode b_G_sample 36 = .ok (.iaload, 1) := by decide +kernel
theorem d_G_sample_37 : decode b_G_sample 37 = .ok (.goto 4, 3) := by decide +kernel
theorem d_G_sample_40 : decode b_G_sample 40 = .ok (.iconst 0, 1) := by decide +kernel
theorem d_G_sample_41 : decode b_G_sample 41 = .ok (.ireturn, 1) := by decide +kernel
theorem d_G_set_0 : decode b_G_set 0 = .ok (.aload_n 0, 1) := by decide +kernel
theorem d_G_set_1 : decode b_G_set 1 = .ok (.iload_n 1, 1) := by decide +kernel
theorem d_G_set_2 : decode b_G_set 2 = .ok (.iload_n 2, 1) := by decide +kernel
theorem d_G_set_3 : decode b_G_set 3 = .ok (.invokevirtual 31, 3) := by decide +kernel
theorem d_G_set_6 : decode b_G_set 6 = .ok (.ifCond .eq 17, 3) := by decide +kernel
theorem d_G_set_9 : decode b_G_set 9 = .ok (.aload_n 0, 1) := by decide +kernel
theorem d_G_set_10 : decode b_G_set 10 = .ok (.getfield 27, 3) := by decide +kernel
theorem d_G_set_13 : decode b_G_set 13 = .ok (.iload_n 2, 1) := by decide +kernel
theorem d_G_set_14 : decode b_G_set 14 = .ok (.aload_n 0, 1) := by decide +kernel
theorem d_G_set_15 : decode b_G_set 15 = .ok (.getfield 24, 3) := by decide +kernel
theorem d_G_set_18 : decode b_G_set 18 = .ok (.imul, 1) := by decide +kernel
theorem d_G_set_19 : decode b_G_set 19 = .ok (.iload_n 1, 1) := by decide +kernel
theorem d_G_set_20 : decode b_G_set 20 = .ok (.iadd, 1) := by decide +kernel
theorem d_G_set_21 : decode b_G_set 21 = .ok (.iload_n 3, 1) := by decide +kernel
theorem d_G_set_22 : decode b_G_set 22 = .ok (.iastore, 1) := by decide +kernel
theorem d_G_set_23 : decode b_G_set 23 = .ok (.return_, 1) := by decide +kernel
theorem d_G_has_0 : decode b_G_has 0 = .ok (.iload_n 1, 1) := by decide +kernel
theorem d_G_has_1 : decode b_G_has 1 = .ok (.ifCond .lt 27, 3) := by decide +kernel
theorem d_G_has_4 : decode b_G_has 4 = .ok (.iload_n 1, 1) := by decide +kernel
theorem d_G_has_5 : decode b_G_has 5 = .ok (.aload_n 0, 1) := by decide +kernel
theorem d_G_has_6 : decode b_G_has 6 = .ok (.getfield 24, 3) := by decide +kernel
theorem d_G_has_9 : decode b_G_has 9 = .ok (.if_icmp .ge 19, 3) := by decide +kernel
theorem d_G_has_12 : decode b_G_has 12 = .ok (.iload_n 2, 1) := by decide +kernel
theorem d_G_has_13 : decode b_G_has 13 = .ok (.ifCond .lt 15, 3) := by decide +kernel
theorem d_G_has_16 : decode b_G_has 16 = .ok (.iload_n 2, 1) := by decide +kernel
theorem d_G_has_17 : decode b_G_has 17 = .ok (.aload_n 0, 1) := by decide +kernel
theorem d_G_has_18 : decode b_G_has 18 = .ok (.getfield 24, 3) := by decide +kernel
theorem d_G_has_21 : decode b_G_has 21 = .ok (.if_icmp .ge 7, 3) := by decide +kernel
theorem d_G_has_24 : decode b_G_has 24 = .ok (.iconst 1, 1) := by decide +kernel
theorem d_G_has_25 : decode b_G_has 25 = .ok (.goto 4, 3) := by decide +kernel
theorem d_G_has_28 : decode b_G_has 28 = .ok (.iconst 0, 1) := by decide +kernel
theorem d_G_has_29 : decode b_G_has 29 = .ok (.ireturn, 1) := by decide +kernel
theorem d_B_append_0 : decode b_B_append 0 = .ok (.iload_n 2, 1) := by decide +kernel
theorem d_B_append_1 : decode b_B_append 1 = .ok (.iconst 1, 1) := by decide +kernel
theorem d_B_append_2 : decode b_B_append 2 = .ok (.isub, 1) := by decide +kernel
theorem d_B_append_3 : decode b_B_append 3 = .ok (.istore_n 3, 1) := by decide +kernel
theorem d_B_append_4 : decode b_B_append 4 = .ok (.iload_n 3, 1) := by decide +kernel
theorem d_B_append_5 : decode b_B_append 5 = .ok (.ifCond .lt 18, 3) := by decide +kernel
theorem d_B_append_8 : decode b_B_append 8 = .ok (.aload_n 0, 1) := by decide +kernel
theorem d_B_append_9 : decode b_B_append 9 = .ok (.iload_n 1, 1) := by decide +kernel
theorem d_B_append_10 : decode b_B_append 10 = .ok (.iload_n 3, 1) := by decide +kernel
theorem d_B_append_11 : decode b_B_append 11 = .ok (.ishr, 1) := by decide +kernel
theorem d_B_append_12 : decode b_B_append 12 = .ok (.iconst 1, 1) := by decide +kernel
theorem d_B_append_13 : decode b_B_append 13 = .ok (.iand, 1) := by decide +kernel
theorem d_B_append_14 : decode b_B_append 14 = .ok (.invokevirtual 31, 3) := by decide +kernel
theorem d_B_append_17 : decode b_B_append 17 = .ok (.iinc 3 (-1), 3) := by decide +kernel
theorem d_B_append_20 : decode b_B_append 20 = .ok (.goto (-16), 3) := by decide +kernel
theorem d_B_append_23 : decode b_B_append 23 = .ok (.return_, 1) := by decide +kernel
theorem d_B_appendBit_0 : decode b_B_appendBit 0 = .ok (.aload_n 0, 1) := by decide +kernel
theorem d_B_appendBit_1 : decode b_B_appendBit 1 = .ok (.getfield 24, 3) := by decide +kernel
theorem d_B_appendBit_4 : decode b_B_appendBit 4 = .ok (.bipush 8, 2) := by decide +kernel
theorem d_B_appendBit_6 : decode b_B_appendBit 6 = .ok (.idiv, 1) := by decide +kernel
theorem d_B_appendBit_7 : decode b_B_appendBit 7 = .ok (.istore_n 2, 1) := by decide +kernel
theorem d_B_appendBit_8 : decode b_B_appendBit 8 = .ok (.iload_n 2, 1) := by decide +kernel
theorem d_B_appendBit_9 : decode b_B_appendBit 9 = .ok (.ifCond .lt 12, 3) := by decide +kernel
theorem d_B_appendBit_12 : decode b_B_appendBit 12 = .ok (.iload_n 2, 1) := by decide +kernel
theorem d_B_appendBit_13 : decode b_B_appendBit 13 = .ok (.aload_n 0, 1) := by decide +kernel
theorem d_B_appendBit_14 : decode b_B_appendBit 14 = .ok (.getfield 18, 3) := by decide +kernel
theorem d_B_appendBit_17 : decode b_B_appendBit 17 = .ok (.arraylength, 1) := by decide +kernel
theorem d_B_appendBit_18 : decode b_B_appendBit 18 = .ok (.if_icmp .lt 4, 3) := by decide +kernel
theorem d_B_appendBit_21 : decode b_B_appendBit 21 = .ok (.return_, 1) := by decide +kernel
theorem d_B_appendBit_22 : decode b_B_appendBit 22 = .ok (.aload_n 0, 1) := by decide +kernel
theorem d_B_appendBit_23 : decode b_B_appendBit 23 = .ok (.getfield 24, 3) := by decide +kernel
theorem d_B_appendBit_26 : decode b_B_appendBit 26 = .ok (.bipush 8, 2) := by decide +kernel
theorem d_B_appendBit_28 : decode b_B_appendBit 28 = .ok (.irem, 1) := by decide +kernel
theorem d_B_appendBit_29 : decode b_B_appendBit 29 = .ok (.istore_n 3, 1) := by decide +kernel
theorem d_B_appendBit_30 : decode b_B_appendBit 30 = .ok (.iload_n 3, 1) := by decide +kernel
theorem d_B_appendBit_31 : decode b_B_appendBit 31 = .ok (.ifCond .ne 7, 3) := by decide +kernel
theorem d_B_appendBit_34 : decode b_B_appendBit 34 = .ok (.iconst 0, 1) := by decide +kernel
theorem d_B_appendBit_35 : decode b_B_appendBit 35 = .ok (.goto 9, 3) := by decide +kernel
theorem d_B_appendBit_38 : decode b_B_appendBit 38 = .ok (.aload_n 0, 1) := by decide +kernel
theorem d_B_appendBit_39 : decode b_B_appendBit 39 = .ok (.getfield 18, 3) := by decide +kernel
theorem d_B_appendBit_42 : decode b_B_appendBit 42 = .ok (.iload_n 2, 1) := by decide +kernel
theorem d_B_appendBit_43 : decode b_B_appendBit 43 = .ok (.iaload, 1) := by decide +kernel
theorem d_B_appendBit_44 : decode b_B_appendBit 44 = .ok (.istore 4, 2) := by decide +kernel
theorem d_B_appendBit_46 : decode b_B_appendBit 46 = .ok (.aload_n 0, 1) := by decide +kernel
theorem d_B_appendBit_47 : decode b_B_appendBit 47 = .ok (.getfield 18, 3) := by decide +kernel
theorem d_B_appendBit_50 : decode b_B_appendBit 50 = .ok (.iload_n 2, 1) := by decide +kernel
theorem d_B_appendBit_51 : decode b_B_appendBit 51 = .ok (.iload 4, 2) := by decide +kernel
theorem d_B_appendBit_53 : decode b_B_appendBit 53 = .ok (.iload_n 1, 1) := by decide +kernel
theorem d_B_appendBit_54 : decode b_B_appendBit 54 = .ok (.bipush 7, 2) := by decide +kernel
theorem d_B_appendBit_56 : decode b_B_appendBit 56 = .ok (.iload_n 3, 1) := by decide +kernel
theorem d_B_appendBit_57 : decode b_B_appendBit 57 = .ok (.isub, 1) := by decide +kernel
theorem d_B_appendBit_58 : decode b_B_appendBit 58 = .ok (.ishl, 1) := by decide +kernel
theorem d_B_appendBit_59 : decode b_B_appendBit 59 = .ok (.ior, 1) := by decide +kernel
theorem d_B_appendBit_60 : decode b_B_appendBit 60 = .ok (.iastore, 1) := by decide +kernel
theorem d_B_appendBit_61 : decode b_B_appendBit 61 = .ok (.aload_n 0, 1) := by decide +kernel
theorem d_B_appendBit_62 : decode b_B_appendBit 62 = .ok (.dup, 1) := by decide +kernel
theorem d_B_appendBit_63 : decode b_B_appendBit 63 = .ok (.getfield 24, 3) := by decide +kernel
theorem d_B_appendBit_66 : decode b_B_appendBit 66 = .ok (.iconst 1, 1) := by decide +kernel
theorem d_B_appendBit_67 : decode b_B_appendBit 67 = .ok (.iadd, 1) := by decide +kernel
theorem d_B_appendBit_68 : decode b_B_appendBit 68 = .ok (.putfield 24, 3) := by decide +kernel
theorem d_B_appendBit_71 : decode b_B_appendBit 71 = .ok (.return_, 1) := by decide +kernel
theorem d_F_acrossOf_0 : decode b_F_acrossOf 0 = .ok (.iload_n 0, 1) := by decide +kernel
theorem d_F_acrossOf_1 : decode b_F_acrossOf 1 = .ok (.iconst 1, 1) := by decide +kernel
theorem d_F_acrossOf_2 : decode b_F_acrossOf 2 = .ok (.iand, 1) := by decide +kernel
theorem d_F_acrossOf_3 : decode b_F_acrossOf 3 = .ok (.ireturn, 1) := by decide +kernel
