theorem d_T_become_24 : decode b_T_become 24 = .ok (.putfield 22, 3) := by decide +kernel
theorem d_T_become_27 : decode b_T_become 27 = .ok (.return_, 1) := by decide +kernel
theorem d_K_add_0 : decode b_K_add 0 = .ok (.bipush 8, 2) := by decide +kernel
theorem d_K_add_2 : decode b_K_add 2 = .ok (.aload_n 0, 1) := by decide +kernel
theorem d_K_add_3 : decode b_K_add 3 = .ok (.getfield 24, 3) := by decide +kernel
theorem d_K_add_6 : decode b_K_add 6 = .ok (.imul, 1) := by decide +kernel
theorem d_K_add_7 : decode b_K_add 7 = .ok (.istore 5, 2) := by decide +kernel
theorem d_K_add_9 : decode b_K_add 9 = .ok (.iload 5, 2) := by decide +kernel
theorem d_K_add_11 : decode b_K_add 11 = .ok (.bipush 7, 2) := by decide +kernel
theorem d_K_add_13 : decode b_K_add 13 = .ok (.iadd, 1) := by decide +kernel
theorem d_K_add_14 : decode b_K_add 14 = .ok (.aload_n 0, 1) := by decide +kernel
theorem d_K_add_15 : decode b_K_add 15 = .ok (.getfield 20, 3) := by decide +kernel
theorem d_K_add_18 : decode b_K_add 18 = .ok (.arraylength, 1) := by decide +kernel
theorem d_K_add_19 : decode b_K_add 19 = .ok (.if_icmp .lt 4, 3) := by decide +kernel
theorem d_K_add_22 : decode b_K_add 22 = .ok (.return_, 1) := by decide +kernel
theorem d_K_add_23 : decode b_K_add 23 = .ok (.aload_n 0, 1) := by decide +kernel
theorem d_K_add_24 : decode b_K_add 24 = .ok (.getfield 20, 3) := by decide +kernel
theorem d_K_add_27 : decode b_K_add 27 = .ok (.iload 5, 2) := by decide +kernel
theorem d_K_add_29 : decode b_K_add 29 = .ok (.iconst 0, 1) := by decide +kernel
theorem d_K_add_30 : decode b_K_add 30 = .ok (.iadd, 1) := by decide +kernel
theorem d_K_add_31 : decode b_K_add 31 = .ok (.iload_n 1, 1) := by decide +kernel
theorem d_K_add_32 : decode b_K_add 32 = .ok (.iastore, 1) := by decide +kernel
theorem d_K_add_33 : decode b_K_add 33 = .ok (.aload_n 0, 1) := by decide +kernel
theorem d_K_add_34 : decode b_K_add 34 = .ok (.getfield 20, 3) := by decide +kernel
theorem d_K_add_37 : decode b_K_add 37 = .ok (.iload 5, 2) := by decide +kernel
theorem d_K_add_39 : decode b_K_add 39 = .ok (.iconst 1, 1) := by decide +kernel
theorem d_K_add_40 : decode b_K_add 40 = .ok (.iadd, 1) := by decide +kernel
theorem d_K_add_41 : decode b_K_add 41 = .ok (.iload_n 2, 1) := by decide +kernel
theorem d_K_add_42 : decode b_K_add 42 = .ok (.iastore, 1) := by decide +kernel
theorem d_K_add_43 : decode b_K_add 43 = .ok (.aload_n 0, 1) := by decide +kernel
theorem d_K_add_44 : decode b_K_add 44 = .ok (.getfield 20, 3) := by decide +kernel
theorem d_K_add_47 : decode b_K_add 47 = .ok (.iload 5, 2) := by decide +kernel
theorem d_K_add_49 : decode b_K_add 49 = .ok (.iconst 2, 1) := by decide +kernel
theorem d_K_add_50 : decode b_K_add 50 = .ok (.iadd, 1) := by decide +kernel
theorem d_K_add_51 : decode b_K_add 51 = .ok (.iload_n 3, 1) := by decide +kernel
theorem d_K_add_52 : decode b_K_add 52 = .ok (.iastore, 1) := by decide +kernel
theorem d_K_add_53 : decode b_K_add 53 = .ok (.aload_n 0, 1) := by decide +kernel
theorem d_K_add_54 : decode b_K_add 54 = .ok (.getfield 20, 3) := by decide +kernel
theorem d_K_add_57 : decode b_K_add 57 = .ok (.iload 5, 2) := by decide +kernel
theorem d_K_add_59 : decode b_K_add 59 = .ok (.iconst 3, 1) := by decide +kernel
theorem d_K_add_60 : decode b_K_add 60 = .ok (.iadd, 1) := by decide +kernel
theorem d_K_add_61 : decode b_K_add 61 = .ok (.aload 4, 2) := by decide +kernel
theorem d_K_add_63 : decode b_K_add 63 = .ok (.getfield 28, 3) := by decide +kernel
theorem d_K_add_66 : decode b_K_add 66 = .ok (.iastore, 1) := by decide +kernel
theorem d_K_add_67 : decode b_K_add 67 = .ok (.aload_n 0, 1) := by decide +kernel
theorem d_K_add_68 : decode b_K_add 68 = .ok (.getfield 20, 3) := by decide +kernel
theorem d_K_add_71 : decode b_K_add 71 = .ok (.iload 5, 2) := by decide +kernel
theorem d_K_add_73 : decode b_K_add 73 = .ok (.iconst 4, 1) := by decide +kernel
theorem d_K_add_74 : decode b_K_add 74 = .ok (.iadd, 1) := by decide +kernel
theorem d_K_add_75 : decode b_K_add 75 = .ok (.aload 4, 2) := by decide +kernel
theorem d_K_add_77 : decode b_K_add 77 = .ok (.getfield 33, 3) := by decide +kernel
theorem d_K_add_80 : decode b_K_add 80 = .ok (.iastore, 1) := by decide +kernel
theorem d_K_add_81 : decode b_K_add 81 = .ok (.aload_n 0, 1) := by decide +kernel
theorem d_K_add_82 : decode b_K_add 82 = .ok (.getfield 20, 3) := by decide +kernel
theorem d_K_add_85 : decode b_K_add 85 = .ok (.iload 5, 2) := by decide +kernel
theorem d_K_add_87 : decode b_K_add 87 = .ok (.iconst 5, 1) := by decide +kernel
theorem d_K_add_88 : decode b_K_add 88 = .ok (.iadd, 1) := by decide +kernel
theorem d_K_add_89 : decode b_K_add 89 = .ok (.aload 4, 2) := by decide +kernel
theorem d_K_add_91 : decode b_K_add 91 = .ok (.getfield 36, 3) := by decide +kernel
theorem d_K_add_94 : decode b_K_add 94 = .ok (.iastore, 1) := by decide +kernel
theorem d_K_add_95 : decode b_K_add 95 = .ok (.aload_n 0, 1) := by decide +kernel
theorem d_K_add_96 : decode b_K_add 96 = .ok (.getfield 20, 3) := by decide +kernel
theorem d_K_add_99 : decode b_K_add 99 = .ok (.iload 5, 2) := by decide +kernel
theorem d_K_add_101 : decode b_K_add 101 = .ok (.bipush 6, 2) := by decide +kernel
theorem d_K_add_103 : decode b_K_add 103 = .ok (.iadd, 1) := by decide +kernel
theorem d_K_add_104 : decode b_K_add 104 = .ok (.aload 4, 2) := by decide +kernel
theorem d_K_add_106 : decode b_K_add 106 = .ok (.getfield 39, 3) := by decide +kernel
theorem d_K_add_109 : decode b_K_add 109 = .ok (.iastore, 1) := by decide +kernel
theorem d_K_add_110 : decode b_K_add 110 = .ok (.aload_n 0, 1) := by decide +kernel
theorem d_K_add_111 : decode b_K_add 111 = .ok (.getfield 20, 3) := by decide +kernel
theorem d_K_add_114 : decode b_K_add 114 = .ok (.iload 5, 2) := by decide +kernel
theorem d_K_add_116 : decode b_K_add 116 = .ok (.bipush 7, 2) := by decide +kernel
theorem d_K_add_118 : decode b_K_add 118 = .ok (.iadd, 1) := by decide +kernel
theorem d_K_add_119 : decode b_K_add 119 = .ok (.aload 4, 2) := by decide +kernel
theorem d_K_add_121 : decode b_K_add 121 = .ok (.getfield 42, 3) := by decide +kernel
theorem d_K_add_124 : decode b_K_add 124 = .ok (.iastore, 1) := by decide +kernel
theorem d_K_add_125 : decode b_K_add 125 = .ok (.aload_n 0, 1) := by decide +kernel
theorem d_K_add_126 : decode b_K_add 126 = .ok (.dup, 1) := by decide +kernel
theorem d_K_add_127 : decode b_K_add 127 = .ok (.getfield 24, 3) := by decide +kernel
theorem d_K_add_130 : decode b_K_add 130 = .ok (.iconst 1, 1) := by decide +kernel
theorem d_K_add_131 : decode b_K_add 131 = .ok (.iadd, 1) := by decide +kernel
theorem d_K_add_132 : decode b_K_add 132 = .ok (.putfield 24, 3) := by decide +kernel
theorem d_K_add_135 : decode b_K_add 135 = .ok (.return_, 1) := by decide +kernel
theorem d_B_restIsFilling_0 : decode b_B_restIsFilling 0 = .ok (.aload_n 0, 1) := by decide +kernel
theorem d_B_restIsFilling_1 : decode b_B_restIsFilling 1 = .ok (.getfield 24, 3) := by decide +kernel
theorem d_B_restIsFilling_4 : decode b_B_restIsFilling 4 = .ok (.aload_n 0, 1) := by decide +kernel
theorem d_B_restIsFilling_5 : decode b_B_restIsFilling 5 = .ok (.getfield 28, 3) := by decide +kernel
theorem d_B_restIsFilling_8 : decode b_B_restIsFilling 8 = .ok (.isub, 1) := by decide +kernel
theorem d_B_restIsFilling_9 : decode b_B_restIsFilling 9 = .ok (.bipush 8, 2) := by decide +kernel
theorem d_B_restIsFilling_11 : decode b_B_restIsFilling 11 = .ok (.if_icmp .lt 5, 3) := by decide +kernel
theorem d_B_restIsFilling_14 : decode b_B_restIsFilling 14 = .ok (.iconst 0, 1) := by decide +kernel
theorem d_B_restIsFilling_15 : decode b_B_restIsFilling 15 = .ok (.ireturn, 1) := by decide +kernel
theorem d_B_restIsFilling_16 : decode b_B_restIsFilling 16 = .ok (.aload_n 0, 1) := by decide +kernel
theorem d_B_restIsFilling_17 : decode b_B_restIsFilling 17 = .ok (.getfield 28, 3) := by decide +kernel
theorem d_B_restIsFilling_20 : decode b_B_restIsFilling 20 = .ok (.istore_n 1, 1) := by decide +kernel
theorem d_B_restIsFilling_21 : decode b_B_restIsFilling 21 = .ok (.iload_n 1, 1) := by decide +kernel
theorem d_B_restIsFilling_22 : decode b_B_restIsFilling 22 = .ok (.aload_n 0, 1) := by decide +kernel
theorem d_B_restIsFilling_23 : decode b_B_restIsFilling 23 = .ok (.getfield 24, 3) := by decide +kernel
theorem d_B_restIsFilling_26 : decode b_B_restIsFilling 26 = .ok (.if_icmp .ge 19, 3) := by decide +kernel
theorem d_B_restIsFilling_29 : decode b_B_restIsFilling 29 = .ok (.aload_n 0, 1) := by decide +kernel
theorem d_B_restIsFilling_30 : decode b_B_restIsFilling 30 = .ok (.iload_n 1, 1) := by decide +kernel
theorem d_B_restIsFilling_31 : decode b_B_restIsFilling 31 = .ok (.invokevirtual 35, 3) := by decide +kernel
theorem d_B_restIsFilling_34 : decode b_B_restIsFilling 34 = .ok (.ifCond .eq 5, 3) := by decide +kernel
theorem d_B_restIsFilling_37 : decode b_B_restIsFilling 37 = .ok (.iconst 0, 1) := by decide +kernel
theorem d_B_restIsFilling_38 : decode b_B_restIsFilling 38 = .ok (.ireturn, 1) := by decide +kernel
theorem d_B_restIsFilling_39 : decode b_B_restIsFilling 39 = .ok (.iinc 1 1, 3) := by decide +kernel
theorem d_B_restIsFilling_42 : decode b_B_restIsFilling 42 = .ok (.goto (-21), 3) := by decide +kernel
theorem d_B_restIsFilling_45 : decode b_B_restIsFilling 45 = .ok (.iconst 1, 1) := by decide +kernel
theorem d_B_restIsFilling_46 : decode b_B_restIsFilling 46 = .ok (.ireturn, 1) := by decide +kernel
theorem d_B_wipe_0 : decode b_B_wipe 0 = .ok (.aload_n 0, 1) := by decide +kernel
theorem d_B_wipe_1 : decode b_B_wipe 1 = .ok (.iconst 0, 1) := by decide +kernel
theorem d_B_wipe_2 : decode b_B_wipe 2 = .ok (.putfield 24, 3) := by decide +kernel
theorem d_B_wipe_5 : decode b_B_wipe 5 = .ok (.aload_n 0, 1) := by decide +kernel
theorem d_B_wipe_6 : decode b_B_wipe 6 = .ok (.iconst 0, 1) := by decide +kernel
theorem d_B_wipe_7 : decode b_B_wipe 7 = .ok (.putfield 28, 3) := by decide +kernel
theorem d_B_wipe_10 : decode b_B_wipe 10 = .ok (.return_, 1) := by decide +kernel
theorem d_K_wipe_0 : decode b_K_wipe 0 = .ok (.aload_n 0, 1) := by decide +kernel
theorem d_K_wipe_1 : decode b_K_wipe 1 = .ok (.iconst 0, 1) := by decide +kernel
theorem d_K_wipe_2 : decode b_K_wipe 2 = .ok (.putfield 24, 3) := by decide +kernel
theorem d_K_wipe_5 : decode b_K_wipe 5 = .ok (.return_, 1) := by decide +kernel
theorem d_F_told_0 : decode b_F_told 0 = .ok (.iload_n 1, 1) := by decide +kernel
theorem d_F_told_1 : decode b_F_told 1 = .ok (.tableswitch 72 0 4 #[35, 40, 48, 56, 64], 35) := by decide +kernel
theorem d_F_told_36 : decode b_F_told 36 = .ok (.aload_n 0, 1) := by decide +kernel
theorem d_F_told_37 : decode b_F_told 37 = .ok (.getfield 16, 3) := by decide +kernel
theorem d_F_told_40 : decode b_F_told 40 = .ok (.ireturn, 1) := by decide +kernel
theorem d_F_told_41 : decode b_F_told 41 = .ok (.aload_n 0, 1) := by decide +kernel
theorem d_F_told_42 : decode b_F_told 42 = .ok (.getfield 60, 3) := by decide +kernel
theorem d_F_told_45 : decode b_F_told 45 = .ok (.getfield 136, 3) := by decide +kernel
theorem d_F_told_48 : decode b_F_told 48 = .ok (.ireturn, 1) := by decide +kernel
theorem d_F_told_49 : decode b_F_told 49 = .ok (.aload_n 0, 1) := by decide +kernel
theorem d_F_told_50 : decode b_F_told 50 = .ok (.getfield 74, 3) := by decide +kernel
theorem d_F_told_53 : decode b_F_told 53 = .ok (.invokevirtual 146, 3) := by decide +kernel
theorem d_F_told_56 : decode b_F_told 56 = .ok (.ireturn, 1) := by decide +kernel
theorem d_F_told_57 : decode b_F_told 57 = .ok (.aload_n 0, 1) := by decide +kernel
theorem d_F_told_58 : decode b_F_told 58 = .ok (.getfield 78, 3) := by decide +kernel
theorem d_F_told_61 : decode b_F_told 61 = .ok (.invokevirtual 146, 3) := by decide +kernel
theorem d_F_told_64 : decode b_F_told 64 = .ok (.ireturn, 1) := by decide +kernel
theorem d_F_told_65 : decode b_F_told 65 = .ok (.aload_n 0, 1) := by decide +kernel
theorem d_F_told_66 : decode b_F_told 66 = .ok (.getfield 31, 3) := by decide +kernel
theorem d_F_told_69 : decode b_F_told 69 = .ok (.getfield 185, 3) := by decide +kernel
theorem d_F_told_72 : decode b_F_told 72 = .ok (.ireturn, 1) := by decide +kernel
theorem d_F_told_73 : decode b_F_told 73 = .ok (.iconst (-1), 1) := by decide +kernel
theorem d_F_told_74 : decode b_F_told 74 = .ok (.ireturn, 1) := by decide +kernel
theorem d_B_bytes_0 : decode b_B_bytes 0 = .ok (.aload_n 0, 1) := by decide +kernel
theorem d_B_bytes_1 : decode b_B_bytes 1 = .ok (.getfield 24, 3) := by decide +kernel
theorem d_B_bytes_4 : decode b_B_bytes 4 = .ok (.bipush 8, 2) := by decide +kernel
theorem d_B_bytes_6 : decode b_B_bytes 6 = .ok (.iadd, 1) := by decide +kernel
theorem d_B_bytes_7 : decode b_B_bytes 7 = .ok (.iconst 1, 1) := by decide +kernel
theorem d_B_bytes_8 : decode b_B_bytes 8 = .ok (.isub, 1) := by decide +kernel
theorem d_B_bytes_9 : decode b_B_bytes 9 = .ok (.bipush 8, 2) := by decide +kernel
theorem d_B_bytes_11 : decode b_B_bytes 11 = .ok (.idiv, 1) := by decide +kernel
theorem d_B_bytes_12 : decode b_B_bytes 12 = .ok (.ireturn, 1) := by decide +kernel
theorem d_F_tried_0 : decode b_F_tried 0 = .ok (.aload_n 0, 1) := by decide +kernel
theorem d_F_tried_1 : decode b_F_tried 1 = .ok (.getfield 51, 3) := by decide +kernel
theorem d_F_tried_4 : decode b_F_tried 4 = .ok (.getfield 212, 3) := by decide +kernel
theorem d_F_tried_7 : decode b_F_tried 7 = .ok (.ireturn, 1) := by decide +kernel
theorem d_M_thrown_0 : decode b_M_thrown 0 = .ok (.aload_n 0, 1) := by decide +kernel
theorem d_M_thrown_1 : decode b_M_thrown 1 = .ok (.getfield 50, 3) := by decide +kernel
theorem d_M_thrown_4 : decode b_M_thrown 4 = .ok (.ireturn, 1) := by decide +kernel
theorem d_M_put_0 : decode b_M_put 0 = .ok (.aload_n 0, 1) := by decide +kernel
theorem d_M_put_1 : decode b_M_put 1 = .ok (.aload_n 0, 1) := by decide +kernel
theorem d_M_put_2 : decode b_M_put 2 = .ok (.iload_n 1, 1) := by decide +kernel
theorem d_M_put_3 : decode b_M_put 3 = .ok (.iload_n 2, 1) := by decide +kernel
theorem d_M_put_4 : decode b_M_put 4 = .ok (.invokevirtual 59, 3) := by decide +kernel
theorem d_M_put_7 : decode b_M_put 7 = .ok (.ifCond .ne 7, 3) := by decide +kernel
theorem d_M_put_10 : decode b_M_put 10 = .ok (.iconst 1, 1) := by decide +kernel
theorem d_M_put_11 : decode b_M_put 11 = .ok (.goto 20, 3) := by decide +kernel
theorem d_M_put_14 : decode b_M_put 14 = .ok (.iload_n 3, 1) := by decide +kernel
theorem d_M_put_15 : decode b_M_put 15 = .ok (.i2l, 1) := by decide +kernel
theorem d_M_put_16 : decode b_M_put 16 = .ok (.lconst 0, 1) := by decide +kernel
theorem d_M_put_17 : decode b_M_put 17 = .ok (.ldc2_w 63, 3) := by decide +kernel
theorem d_M_put_20 : decode b_M_put 20 = .ok (.invokestatic 55, 3) := by decide +kernel
theorem d_M_put_23 : decode b_M_put 23 = .ok (.ifCond .ne 7, 3) := by decide +kernel
theorem d_M_put_26 : decode b_M_put 26 = .ok (.iconst 2, 1) := by decide +kernel
theorem d_M_put_27 : decode b_M_put 27 = .ok (.goto 4, 3) := by decide +kernel
theorem d_M_put_30 : decode b_M_put 30 = .ok (.iconst 0, 1) := by decide +kernel
theorem d_M_put_31 : decode b_M_put 31 = .ok (.putfield 50, 3) := by decide +kernel
theorem d_M_put_34 : decode b_M_put 34 = .ok (.aload_n 0, 1) := by decide +kernel
theorem d_M_put_35 : decode b_M_put 35 = .ok (.getfield 50, 3) := by decide +kernel
theorem d_M_put_38 : decode b_M_put 38 = .ok (.ifCond .le 5, 3) := by decide +kernel
theorem d_M_put_41 : decode b_M_put 41 = .ok (.iconst 0, 1) := by decide +kernel
theorem d_M_put_42 : decode b_M_put 42 = .ok (.ireturn, 1) := by decide +kernel
theorem d_M_put_43 : decode b_M_put 43 = .ok (.aload_n 0, 1) := by decide +kernel
theorem d_M_put_44 : decode b_M_put 44 = .ok (.getfield 7, 3) := by decide +kernel
theorem d_M_put_47 : decode b_M_put 47 = .ok (.aload_n 0, 1) := by decide +kernel
theorem d_M_put_48 : decode b_M_put 48 = .ok (.getfield 46, 3) := by decide +kernel
theorem d_M_put_51 : decode b_M_put 51 = .ok (.iload_n 2, 1) := by decide +kernel
theorem d_M_put_52 : decode b_M_put 52 = .ok (.imul, 1) := by decide +kernel
theorem d_M_put_53 : decode b_M_put 53 = .ok (.iload_n 1, 1) := by decide +kernel
theorem d_M_put_54 : decode b_M_put 54 = .ok (.iadd, 1) := by decide +kernel
theorem d_M_put_55 : decode b_M_put 55 = .ok (.iaload, 1) := by decide +kernel
theorem d_M_put_56 : decode b_M_put 56 = .ok (.istore 4, 2) := by decide +kernel
theorem d_M_put_58 : decode b_M_put 58 = .ok (.aload_n 0, 1) := by decide +kernel
theorem d_M_put_59 : decode b_M_put 59 = .ok (.getfield 7, 3) := by decide +kernel
theorem d_M_put_62 : decode b_M_put 62 = .ok (.aload_n 0, 1) := by decide +kernel
theorem d_M_put_63 : decode b_M_put 63 = .ok (.getfield 46, 3) := by decide +kernel
theorem d_M_put_66 : decode b_M_put 66 = .ok (.iload_n 2, 1) := by decide +kernel
theorem d_M_put_67 : decode b_M_put 67 = .ok (.imul, 1) := by decide +kernel
theorem d_M_put_68 : decode b_M_put 68 = .ok (.iload_n 1, 1) := by decide +kernel
theorem d_M_put_69 : decode b_M_put 69 = .ok (.iadd, 1) := by decide +kernel
theorem d_M_put_70 : decode b_M_put 70 = .ok (.iload_n 3, 1) := by decide +kernel
theorem d_M_put_71 : decode b_M_put 71 = .ok (.iastore, 1) := by decide +kernel
theorem d_M_put_72 : decode b_M_put 72 = .ok (.iload 4, 2) := by decide +kernel
theorem d_M_put_74 : decode b_M_put 74 = .ok (.ireturn, 1) := by decide +kernel
theorem d_M_isPlace_0 : decode b_M_isPlace 0 = .ok (.iload_n 1, 1) := by decide +kernel
theorem d_M_isPlace_1 : decode b_M_isPlace 1 = .ok (.i2l, 1) := by decide +kernel
theorem d_M_isPlace_2 : decode b_M_isPlace 2 = .ok (.lconst 0, 1) := by decide +kernel
theorem d_M_isPlace_3 : decode b_M_isPlace 3 = .ok (.aload_n 0, 1) := by decide +kernel
theorem d_M_isPlace_4 : decode b_M_isPlace 4 = .ok (.getfield 46, 3) := by decide +kernel
theorem d_M_isPlace_7 : decode b_M_isPlace 7 = .ok (.iconst 1, 1) := by decide +kernel
theorem d_M_isPlace_8 : decode b_M_isPlace 8 = .ok (.isub, 1) := by decide +kernel
theorem d_M_isPlace_9 : decode b_M_isPlace 9 = .ok (.i2l, 1) := by decide +kernel
theorem d_M_isPlace_10 : decode b_M_isPlace 10 = .ok (.invokestatic 55, 3) := by decide +kernel
theorem d_M_isPlace_13 : decode b_M_isPlace 13 = .ok (.ifCond .eq 23, 3) := by decide +kernel
theorem d_M_isPlace_16 : decode b_M_isPlace 16 = .ok (.iload_n 2, 1) := by decide +kernel
theorem d_M_isPlace_17 : decode b_M_isPlace 17 = .ok (.i2l, 1) := by decide +kernel
theorem d_M_isPlace_18 : decode b_M_isPlace 18 = .ok (.lconst 0, 1) := by decide +kernel
theorem d_M_isPlace_19 : decode b_M_isPlace 19 = .ok (.aload_n 0, 1) := by decide +kernel
theorem d_M_isPlace_20 : decode b_M_isPlace 20 = .ok (.getfield 46, 3) := by decide +kernel
theorem d_M_isPlace_23 : decode b_M_isPlace 23 = .ok (.iconst 1, 1) := by decide +kernel
theorem d_M_isPlace_24 : decode b_M_isPlace 24 = .ok (.isub, 1) := by decide +kernel
theorem d_M_isPlace_25 : decode b_M_isPlace 25 = .ok (.i2l, 1) := by decide +kernel
theorem d_M_isPlace_26 : decode b_M_isPlace 26 = .ok (.invokestatic 55, 3) := by decide +kernel
theorem d_M_isPlace_29 : decode b_M_isPlace 29 = .ok (.ifCond .eq 7, 3) := by decide +kernel
theorem d_M_isPlace_32 : decode b_M_isPlace 32 = .ok (.iconst 1, 1) := by decide +kernel
theorem d_M_isPlace_33 : decode b_M_isPlace 33 = .ok (.goto 4, 3) := by decide +kernel
theorem d_M_isPlace_36 : decode b_M_isPlace 36 = .ok (.iconst 0, 1) := by decide +kernel
theorem d_M_isPlace_37 : decode b_M_isPlace 37 = .ok (.ireturn, 1) := by decide +kernel
theorem d_M_in_0 : decode b_M_in 0 = .ok (.lload_n 0, 1) := by decide +kernel
theorem d_M_in_1 : decode b_M_in 1 = .ok (.lload_n 2, 1) := by decide +kernel
theorem d_M_in_2 : decode b_M_in 2 = .ok (.lcmp, 1) := by decide +kernel
theorem d_M_in_3 : decode b_M_in 3 = .ok (.ifCond .lt 14, 3) := by decide +kernel
theorem d_M_in_6 : decode b_M_in 6 = .ok (.lload_n 0, 1) := by decide +kernel
theorem d_M_in_7 : decode b_M_in 7 = .ok (.lload 4, 2) := by decide +kernel
theorem d_M_in_9 : decode b_M_in 9 = .ok (.lcmp, 1) := by decide +kernel
theorem d_M_in_10 : decode b_M_in 10 = .ok (.ifCond .gt 7, 3) := by decide +kernel
theorem d_M_in_13 : decode b_M_in 13 = .ok (.iconst 1, 1) := by decide +kernel
theorem d_M_in_14 : decode b_M_in 14 = .ok (.goto 4, 3) := by decide +kernel
theorem d_M_in_17 : decode b_M_in 17 = .ok (.iconst 0, 1) := by decide +kernel
theorem d_M_in_18 : decode b_M_in 18 = .ok (.ireturn, 1) := by decide +kernel
theorem d_M_paint_0 : decode b_M_paint 0 = .ok (.aload_n 0, 1) := by decide +kernel
theorem d_M_paint_1 : decode b_M_paint 1 = .ok (.iconst 0, 1) := by decide +kernel
theorem d_M_paint_2 : decode b_M_paint 2 = .ok (.putfield 50, 3) := by decide +kernel
theorem d_M_paint_5 : decode b_M_paint 5 = .ok (.iconst 0, 1) := by decide +kernel
theorem d_M_paint_6 : decode b_M_paint 6 = .ok (.istore 4, 2) := by decide +kernel
theorem d_M_paint_8 : decode b_M_paint 8 = .ok (.iconst 0, 1) := by decide +kernel
theorem d_M_paint_9 : decode b_M_paint 9 = .ok (.istore 5, 2) := by decide +kernel
theorem d_M_paint_11 : decode b_M_paint 11 = .ok (.iload 5, 2) := by decide +kernel
theorem d_M_paint_13 : decode b_M_paint 13 = .ok (.aload_n 0, 1) := by decide +kernel
theorem d_M_paint_14 : decode b_M_paint 14 = .ok (.getfield 46, 3) := by decide +kernel
