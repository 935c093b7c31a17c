theorem d_B_bitAt_17 : decode b_B_bitAt 17 = .ok (.iand, 1) := by decide +kernel
theorem d_B_bitAt_18 : decode b_B_bitAt 18 = .ok (.ireturn, 1) := by decide +kernel
theorem d_B_byteOf_0 : decode b_B_byteOf 0 = .ok (.iload_n 1, 1) := by decide +kernel
theorem d_B_byteOf_1 : decode b_B_byteOf 1 = .ok (.ifCond .lt 21, 3) := by decide +kernel
theorem d_B_byteOf_4 : decode b_B_byteOf 4 = .ok (.iload_n 1, 1) := by decide +kernel
theorem d_B_byteOf_5 : decode b_B_byteOf 5 = .ok (.aload_n 0, 1) := by decide +kernel
theorem d_B_byteOf_6 : decode b_B_byteOf 6 = .ok (.getfield 18, 3) := by decide +kernel
theorem d_B_byteOf_9 : decode b_B_byteOf 9 = .ok (.arraylength, 1) := by decide +kernel
theorem d_B_byteOf_10 : decode b_B_byteOf 10 = .ok (.if_icmp .ge 12, 3) := by decide +kernel
theorem d_B_byteOf_13 : decode b_B_byteOf 13 = .ok (.aload_n 0, 1) := by decide +kernel
theorem d_B_byteOf_14 : decode b_B_byteOf 14 = .ok (.getfield 18, 3) := by decide +kernel
theorem d_B_byteOf_17 : decode b_B_byteOf 17 = .ok (.iload_n 1, 1) := by decide +kernel
theorem d_B_byteOf_18 : decode b_B_byteOf 18 = .ok (.iaload, 1) := by decide +kernel
theorem d_B_byteOf_19 : decode b_B_byteOf 19 = .ok (.goto 4, 3) := by decide +kernel
theorem d_B_byteOf_22 : decode b_B_byteOf 22 = .ok (.iconst 0, 1) := by decide +kernel
theorem d_B_byteOf_23 : decode b_B_byteOf 23 = .ok (.ireturn, 1) := by decide +kernel
theorem d_F_isSize_0 : decode b_F_isSize 0 = .ok (.iload_n 0, 1) := by decide +kernel
theorem d_F_isSize_1 : decode b_F_isSize 1 = .ok (.iconst 2, 1) := by decide +kernel
theorem d_F_isSize_2 : decode b_F_isSize 2 = .ok (.if_icmp .eq 20, 3) := by decide +kernel
theorem d_F_isSize_5 : decode b_F_isSize 5 = .ok (.iload_n 0, 1) := by decide +kernel
theorem d_F_isSize_6 : decode b_F_isSize 6 = .ok (.iconst 4, 1) := by decide +kernel
theorem d_F_isSize_7 : decode b_F_isSize 7 = .ok (.if_icmp .eq 15, 3) := by decide +kernel
theorem d_F_isSize_10 : decode b_F_isSize 10 = .ok (.iload_n 0, 1) := by decide +kernel
theorem d_F_isSize_11 : decode b_F_isSize 11 = .ok (.bipush 8, 2) := by decide +kernel
theorem d_F_isSize_13 : decode b_F_isSize 13 = .ok (.if_icmp .eq 9, 3) := by decide +kernel
theorem d_F_isSize_16 : decode b_F_isSize 16 = .ok (.iload_n 0, 1) := by decide +kernel
theorem d_F_isSize_17 : decode b_F_isSize 17 = .ok (.bipush 16, 2) := by decide +kernel
theorem d_F_isSize_19 : decode b_F_isSize 19 = .ok (.if_icmp .ne 7, 3) := by decide +kernel
theorem d_F_isSize_22 : decode b_F_isSize 22 = .ok (.iconst 1, 1) := by decide +kernel
theorem d_F_isSize_23 : decode b_F_isSize 23 = .ok (.goto 4, 3) := by decide +kernel
theorem d_F_isSize_26 : decode b_F_isSize 26 = .ok (.iconst 0, 1) := by decide +kernel
theorem d_F_isSize_27 : decode b_F_isSize 27 = .ok (.ireturn, 1) := by decide +kernel
theorem d_F_readQuarters_0 : decode b_F_readQuarters 0 = .ok (.iload_n 3, 1) := by decide +kernel
theorem d_F_readQuarters_1 : decode b_F_readQuarters 1 = .ok (.iconst 2, 1) := by decide +kernel
theorem d_F_readQuarters_2 : decode b_F_readQuarters 2 = .ok (.if_icmp .ge 5, 3) := by decide +kernel
theorem d_F_readQuarters_5 : decode b_F_readQuarters 5 = .ok (.iconst 0, 1) := by decide +kernel
theorem d_F_readQuarters_6 : decode b_F_readQuarters 6 = .ok (.ireturn, 1) := by decide +kernel
theorem d_F_readQuarters_7 : decode b_F_readQuarters 7 = .ok (.iconst (-1), 1) := by decide +kernel
theorem d_F_readQuarters_8 : decode b_F_readQuarters 8 = .ok (.istore 6, 2) := by decide +kernel
theorem d_F_readQuarters_10 : decode b_F_readQuarters 10 = .ok (.iconst 0, 1) := by decide +kernel
theorem d_F_readQuarters_11 : decode b_F_readQuarters 11 = .ok (.istore 7, 2) := by decide +kernel
theorem d_F_readQuarters_13 : decode b_F_readQuarters 13 = .ok (.iload 7, 2) := by decide +kernel
theorem d_F_readQuarters_15 : decode b_F_readQuarters 15 = .ok (.iconst 4, 1) := by decide +kernel
theorem d_F_readQuarters_16 : decode b_F_readQuarters 16 = .ok (.if_icmp .ge 44, 3) := by decide +kernel
theorem d_F_readQuarters_19 : decode b_F_readQuarters 19 = .ok (.iload 6, 2) := by decide +kernel
theorem d_F_readQuarters_21 : decode b_F_readQuarters 21 = .ok (.iconst (-1), 1) := by decide +kernel
theorem d_F_readQuarters_22 : decode b_F_readQuarters 22 = .ok (.if_icmp .ne 38, 3) := by decide +kernel
theorem d_F_readQuarters_25 : decode b_F_readQuarters 25 = .ok (.aload_n 0, 1) := by decide +kernel
theorem d_F_readQuarters_26 : decode b_F_readQuarters 26 = .ok (.iload_n 1, 1) := by decide +kernel
theorem d_F_readQuarters_27 : decode b_F_readQuarters 27 = .ok (.iload 7, 2) := by decide +kernel
theorem d_F_readQuarters_29 : decode b_F_readQuarters 29 = .ok (.invokestatic 215, 3) := by decide +kernel
theorem d_F_readQuarters_32 : decode b_F_readQuarters 32 = .ok (.iload_n 3, 1) := by decide +kernel
theorem d_F_readQuarters_33 : decode b_F_readQuarters 33 = .ok (.imul, 1) := by decide +kernel
theorem d_F_readQuarters_34 : decode b_F_readQuarters 34 = .ok (.iadd, 1) := by decide +kernel
theorem d_F_readQuarters_35 : decode b_F_readQuarters 35 = .ok (.iload_n 2, 1) := by decide +kernel
theorem d_F_readQuarters_36 : decode b_F_readQuarters 36 = .ok (.iload 7, 2) := by decide +kernel
theorem d_F_readQuarters_38 : decode b_F_readQuarters 38 = .ok (.invokestatic 218, 3) := by decide +kernel
theorem d_F_readQuarters_41 : decode b_F_readQuarters 41 = .ok (.iload_n 3, 1) := by decide +kernel
theorem d_F_readQuarters_42 : decode b_F_readQuarters 42 = .ok (.imul, 1) := by decide +kernel
theorem d_F_readQuarters_43 : decode b_F_readQuarters 43 = .ok (.iadd, 1) := by decide +kernel
theorem d_F_readQuarters_44 : decode b_F_readQuarters 44 = .ok (.iload_n 3, 1) := by decide +kernel
theorem d_F_readQuarters_45 : decode b_F_readQuarters 45 = .ok (.iload 4, 2) := by decide +kernel
theorem d_F_readQuarters_47 : decode b_F_readQuarters 47 = .ok (.iload 5, 2) := by decide +kernel
theorem d_F_readQuarters_49 : decode b_F_readQuarters 49 = .ok (.invokevirtual 270, 3) := by decide +kernel
theorem d_F_readQuarters_52 : decode b_F_readQuarters 52 = .ok (.istore 6, 2) := by decide +kernel
theorem d_F_readQuarters_54 : decode b_F_readQuarters 54 = .ok (.iinc 7 1, 3) := by decide +kernel
theorem d_F_readQuarters_57 : decode b_F_readQuarters 57 = .ok (.goto (-44), 3) := by decide +kernel
theorem d_F_readQuarters_60 : decode b_F_readQuarters 60 = .ok (.iload 6, 2) := by decide +kernel
theorem d_F_readQuarters_62 : decode b_F_readQuarters 62 = .ok (.ireturn, 1) := by decide +kernel
theorem d_F_readSquare_0 : decode b_F_readSquare 0 = .ok (.iload_n 3, 1) := by decide +kernel
theorem d_F_readSquare_1 : decode b_F_readSquare 1 = .ok (.iload 4, 2) := by decide +kernel
theorem d_F_readSquare_3 : decode b_F_readSquare 3 = .ok (.if_icmp .le 14, 3) := by decide +kernel
theorem d_F_readSquare_6 : decode b_F_readSquare 6 = .ok (.aload_n 0, 1) := by decide +kernel
theorem d_F_readSquare_7 : decode b_F_readSquare 7 = .ok (.getfield 78, 3) := by decide +kernel
theorem d_F_readSquare_10 : decode b_F_readSquare 10 = .ok (.iconst 1, 1) := by decide +kernel
theorem d_F_readSquare_11 : decode b_F_readSquare 11 = .ok (.invokevirtual 259, 3) := by decide +kernel
theorem d_F_readSquare_14 : decode b_F_readSquare 14 = .ok (.goto 4, 3) := by decide +kernel
theorem d_F_readSquare_17 : decode b_F_readSquare 17 = .ok (.iconst 0, 1) := by decide +kernel
theorem d_F_readSquare_18 : decode b_F_readSquare 18 = .ok (.istore 6, 2) := by decide +kernel
theorem d_F_readSquare_20 : decode b_F_readSquare 20 = .ok (.iload 6, 2) := by decide +kernel
theorem d_F_readSquare_22 : decode b_F_readSquare 22 = .ok (.iconst (-1), 1) := by decide +kernel
theorem d_F_readSquare_23 : decode b_F_readSquare 23 = .ok (.if_icmp .ne 5, 3) := by decide +kernel
theorem d_F_readSquare_26 : decode b_F_readSquare 26 = .ok (.iconst 3, 1) := by decide +kernel
theorem d_F_readSquare_27 : decode b_F_readSquare 27 = .ok (.ireturn, 1) := by decide +kernel
theorem d_F_readSquare_28 : decode b_F_readSquare 28 = .ok (.iload 6, 2) := by decide +kernel
theorem d_F_readSquare_30 : decode b_F_readSquare 30 = .ok (.iconst 1, 1) := by decide +kernel
theorem d_F_readSquare_31 : decode b_F_readSquare 31 = .ok (.if_icmp .ne 17, 3) := by decide +kernel
theorem d_F_readSquare_34 : decode b_F_readSquare 34 = .ok (.aload_n 0, 1) := by decide +kernel
theorem d_F_readSquare_35 : decode b_F_readSquare 35 = .ok (.iload_n 1, 1) := by decide +kernel
theorem d_F_readSquare_36 : decode b_F_readSquare 36 = .ok (.iload_n 2, 1) := by decide +kernel
theorem d_F_readSquare_37 : decode b_F_readSquare 37 = .ok (.iload_n 3, 1) := by decide +kernel
theorem d_F_readSquare_38 : decode b_F_readSquare 38 = .ok (.iconst 2, 1) := by decide +kernel
theorem d_F_readSquare_39 : decode b_F_readSquare 39 = .ok (.idiv, 1) := by decide +kernel
theorem d_F_readSquare_40 : decode b_F_readSquare 40 = .ok (.iload 4, 2) := by decide +kernel
theorem d_F_readSquare_42 : decode b_F_readSquare 42 = .ok (.iload 5, 2) := by decide +kernel
theorem d_F_readSquare_44 : decode b_F_readSquare 44 = .ok (.invokevirtual 262, 3) := by decide +kernel
theorem d_F_readSquare_47 : decode b_F_readSquare 47 = .ok (.ireturn, 1) := by decide +kernel
theorem d_F_readSquare_48 : decode b_F_readSquare 48 = .ok (.aload_n 0, 1) := by decide +kernel
theorem d_F_readSquare_49 : decode b_F_readSquare 49 = .ok (.iload_n 3, 1) := by decide +kernel
theorem d_F_readSquare_50 : decode b_F_readSquare 50 = .ok (.invokevirtual 273, 3) := by decide +kernel
theorem d_F_readSquare_53 : decode b_F_readSquare 53 = .ok (.istore 7, 2) := by decide +kernel
theorem d_F_readSquare_55 : decode b_F_readSquare 55 = .ok (.iload 7, 2) := by decide +kernel
theorem d_F_readSquare_57 : decode b_F_readSquare 57 = .ok (.iconst (-1), 1) := by decide +kernel
theorem d_F_readSquare_58 : decode b_F_readSquare 58 = .ok (.if_icmp .ne 22, 3) := by decide +kernel
theorem d_F_readSquare_61 : decode b_F_readSquare 61 = .ok (.iload 5, 2) := by decide +kernel
theorem d_F_readSquare_63 : decode b_F_readSquare 63 = .ok (.ifCond .eq 17, 3) := by decide +kernel
theorem d_F_readSquare_66 : decode b_F_readSquare 66 = .ok (.aload_n 0, 1) := by decide +kernel
theorem d_F_readSquare_67 : decode b_F_readSquare 67 = .ok (.getfield 60, 3) := by decide +kernel
theorem d_F_readSquare_70 : decode b_F_readSquare 70 = .ok (.iload_n 1, 1) := by decide +kernel
theorem d_F_readSquare_71 : decode b_F_readSquare 71 = .ok (.iload_n 2, 1) := by decide +kernel
theorem d_F_readSquare_72 : decode b_F_readSquare 72 = .ok (.iload_n 3, 1) := by decide +kernel
theorem d_F_readSquare_73 : decode b_F_readSquare 73 = .ok (.aload_n 0, 1) := by decide +kernel
theorem d_F_readSquare_74 : decode b_F_readSquare 74 = .ok (.getfield 67, 3) := by decide +kernel
theorem d_F_readSquare_77 : decode b_F_readSquare 77 = .ok (.invokevirtual 233, 3) := by decide +kernel
theorem d_F_readSquare_80 : decode b_F_readSquare 80 = .ok (.iload 7, 2) := by decide +kernel
theorem d_F_readSquare_82 : decode b_F_readSquare 82 = .ok (.ireturn, 1) := by decide +kernel
theorem d_F_acrossOf_0 : decode b_F_acrossOf 0 = .ok (.iload_n 0, 1) := by decide +kernel
theorem d_F_acrossOf_1 : decode b_F_acrossOf 1 = .ok (.iconst 1, 1) := by decide +kernel
theorem d_F_acrossOf_2 : decode b_F_acrossOf 2 = .ok (.iand, 1) := by decide +kernel
theorem d_F_acrossOf_3 : decode b_F_acrossOf 3 = .ok (.ireturn, 1) := by decide +kernel
theorem d_F_downOf_0 : decode b_F_downOf 0 = .ok (.iload_n 0, 1) := by decide +kernel
theorem d_F_downOf_1 : decode b_F_downOf 1 = .ok (.iconst 1, 1) := by decide +kernel
theorem d_F_downOf_2 : decode b_F_downOf 2 = .ok (.ishr, 1) := by decide +kernel
theorem d_F_downOf_3 : decode b_F_downOf 3 = .ok (.ireturn, 1) := by decide +kernel
theorem d_F_readFit_0 : decode b_F_readFit 0 = .ok (.aload_n 0, 1) := by decide +kernel
theorem d_F_readFit_1 : decode b_F_readFit 1 = .ok (.getfield 78, 3) := by decide +kernel
theorem d_F_readFit_4 : decode b_F_readFit 4 = .ok (.aload_n 0, 1) := by decide +kernel
theorem d_F_readFit_5 : decode b_F_readFit 5 = .ok (.iload_n 1, 1) := by decide +kernel
theorem d_F_readFit_6 : decode b_F_readFit 6 = .ok (.invokevirtual 244, 3) := by decide +kernel
theorem d_F_readFit_9 : decode b_F_readFit 9 = .ok (.invokevirtual 259, 3) := by decide +kernel
theorem d_F_readFit_12 : decode b_F_readFit 12 = .ok (.istore_n 2, 1) := by decide +kernel
theorem d_F_readFit_13 : decode b_F_readFit 13 = .ok (.iload_n 2, 1) := by decide +kernel
theorem d_F_readFit_14 : decode b_F_readFit 14 = .ok (.iconst (-1), 1) := by decide +kernel
theorem d_F_readFit_15 : decode b_F_readFit 15 = .ok (.if_icmp .ne 5, 3) := by decide +kernel
theorem d_F_readFit_18 : decode b_F_readFit 18 = .ok (.iconst 3, 1) := by decide +kernel
theorem d_F_readFit_19 : decode b_F_readFit 19 = .ok (.ireturn, 1) := by decide +kernel
theorem d_F_readFit_20 : decode b_F_readFit 20 = .ok (.iload_n 2, 1) := by decide +kernel
theorem d_F_readFit_21 : decode b_F_readFit 21 = .ok (.aload_n 0, 1) := by decide +kernel
theorem d_F_readFit_22 : decode b_F_readFit 22 = .ok (.getfield 16, 3) := by decide +kernel
theorem d_F_readFit_25 : decode b_F_readFit 25 = .ok (.iload_n 1, 1) := by decide +kernel
theorem d_F_readFit_26 : decode b_F_readFit 26 = .ok (.invokestatic 192, 3) := by decide +kernel
theorem d_F_readFit_29 : decode b_F_readFit 29 = .ok (.if_icmp .lt 5, 3) := by decide +kernel
theorem d_F_readFit_32 : decode b_F_readFit 32 = .ok (.iconst 1, 1) := by decide +kernel
theorem d_F_readFit_33 : decode b_F_readFit 33 = .ok (.ireturn, 1) := by decide +kernel
theorem d_F_readFit_34 : decode b_F_readFit 34 = .ok (.aload_n 0, 1) := by decide +kernel
theorem d_F_readFit_35 : decode b_F_readFit 35 = .ok (.getfield 78, 3) := by decide +kernel
theorem d_F_readFit_38 : decode b_F_readFit 38 = .ok (.iconst 3, 1) := by decide +kernel
theorem d_F_readFit_39 : decode b_F_readFit 39 = .ok (.invokevirtual 259, 3) := by decide +kernel
theorem d_F_readFit_42 : decode b_F_readFit 42 = .ok (.istore_n 3, 1) := by decide +kernel
theorem d_F_readFit_43 : decode b_F_readFit 43 = .ok (.iload_n 3, 1) := by decide +kernel
theorem d_F_readFit_44 : decode b_F_readFit 44 = .ok (.iconst (-1), 1) := by decide +kernel
theorem d_F_readFit_45 : decode b_F_readFit 45 = .ok (.if_icmp .ne 5, 3) := by decide +kernel
theorem d_F_readFit_48 : decode b_F_readFit 48 = .ok (.iconst 3, 1) := by decide +kernel
theorem d_F_readFit_49 : decode b_F_readFit 49 = .ok (.ireturn, 1) := by decide +kernel
theorem d_F_readFit_50 : decode b_F_readFit 50 = .ok (.aload_n 0, 1) := by decide +kernel
theorem d_F_readFit_51 : decode b_F_readFit 51 = .ok (.getfield 78, 3) := by decide +kernel
theorem d_F_readFit_54 : decode b_F_readFit 54 = .ok (.iconst 4, 1) := by decide +kernel
theorem d_F_readFit_55 : decode b_F_readFit 55 = .ok (.invokevirtual 259, 3) := by decide +kernel
theorem d_F_readFit_58 : decode b_F_readFit 58 = .ok (.istore 4, 2) := by decide +kernel
theorem d_F_readFit_60 : decode b_F_readFit 60 = .ok (.iload 4, 2) := by decide +kernel
theorem d_F_readFit_62 : decode b_F_readFit 62 = .ok (.iconst (-1), 1) := by decide +kernel
theorem d_F_readFit_63 : decode b_F_readFit 63 = .ok (.if_icmp .ne 5, 3) := by decide +kernel
theorem d_F_readFit_66 : decode b_F_readFit 66 = .ok (.iconst 3, 1) := by decide +kernel
theorem d_F_readFit_67 : decode b_F_readFit 67 = .ok (.ireturn, 1) := by decide +kernel
theorem d_F_readFit_68 : decode b_F_readFit 68 = .ok (.iload 4, 2) := by decide +kernel
theorem d_F_readFit_70 : decode b_F_readFit 70 = .ok (.bipush 7, 2) := by decide +kernel
theorem d_F_readFit_72 : decode b_F_readFit 72 = .ok (.isub, 1) := by decide +kernel
theorem d_F_readFit_73 : decode b_F_readFit 73 = .ok (.bipush 7, 2) := by decide +kernel
theorem d_F_readFit_75 : decode b_F_readFit 75 = .ok (.if_icmp .le 5, 3) := by decide +kernel
theorem d_F_readFit_78 : decode b_F_readFit 78 = .ok (.iconst 2, 1) := by decide +kernel
theorem d_F_readFit_79 : decode b_F_readFit 79 = .ok (.ireturn, 1) := by decide +kernel
theorem d_F_readFit_80 : decode b_F_readFit 80 = .ok (.aload_n 0, 1) := by decide +kernel
theorem d_F_readFit_81 : decode b_F_readFit 81 = .ok (.getfield 78, 3) := by decide +kernel
theorem d_F_readFit_84 : decode b_F_readFit 84 = .ok (.bipush 10, 2) := by decide +kernel
theorem d_F_readFit_86 : decode b_F_readFit 86 = .ok (.invokevirtual 259, 3) := by decide +kernel
theorem d_F_readFit_89 : decode b_F_readFit 89 = .ok (.istore 5, 2) := by decide +kernel
theorem d_F_readFit_91 : decode b_F_readFit 91 = .ok (.iload 5, 2) := by decide +kernel
theorem d_F_readFit_93 : decode b_F_readFit 93 = .ok (.iconst (-1), 1) := by decide +kernel
theorem d_F_readFit_94 : decode b_F_readFit 94 = .ok (.if_icmp .ne 5, 3) := by decide +kernel
theorem d_F_readFit_97 : decode b_F_readFit 97 = .ok (.iconst 3, 1) := by decide +kernel
theorem d_F_readFit_98 : decode b_F_readFit 98 = .ok (.ireturn, 1) := by decide +kernel
theorem d_F_readFit_99 : decode b_F_readFit 99 = .ok (.aload_n 0, 1) := by decide +kernel
theorem d_F_readFit_100 : decode b_F_readFit 100 = .ok (.getfield 67, 3) := by decide +kernel
theorem d_F_readFit_103 : decode b_F_readFit 103 = .ok (.iload_n 2, 1) := by decide +kernel
theorem d_F_readFit_104 : decode b_F_readFit 104 = .ok (.iload_n 3, 1) := by decide +kernel
theorem d_F_readFit_105 : decode b_F_readFit 105 = .ok (.iload 4, 2) := by decide +kernel
theorem d_F_readFit_107 : decode b_F_readFit 107 = .ok (.bipush 7, 2) := by decide +kernel
theorem d_F_readFit_109 : decode b_F_readFit 109 = .ok (.isub, 1) := by decide +kernel
theorem d_F_readFit_110 : decode b_F_readFit 110 = .ok (.iload 5, 2) := by decide +kernel
theorem d_F_readFit_112 : decode b_F_readFit 112 = .ok (.sipush 256, 3) := by decide +kernel
theorem d_F_readFit_115 : decode b_F_readFit 115 = .ok (.isub, 1) := by decide +kernel
theorem d_F_readFit_116 : decode b_F_readFit 116 = .ok (.iconst (-1), 1) := by decide +kernel
theorem d_F_readFit_117 : decode b_F_readFit 117 = .ok (.invokevirtual 276, 3) := by decide +kernel
theorem d_F_readFit_120 : decode b_F_readFit 120 = .ok (.iconst (-1), 1) := by decide +kernel
theorem d_F_readFit_121 : decode b_F_readFit 121 = .ok (.ireturn, 1) := by decide +kernel
theorem d_F_domainBits_0 : decode b_F_domainBits 0 = .ok (.aload_n 0, 1) := by decide +kernel
theorem d_F_domainBits_1 : decode b_F_domainBits 1 = .ok (.getfield 16, 3) := by decide +kernel
theorem d_F_domainBits_4 : decode b_F_domainBits 4 = .ok (.iload_n 1, 1) := by decide +kernel
theorem d_F_domainBits_5 : decode b_F_domainBits 5 = .ok (.invokestatic 192, 3) := by decide +kernel
theorem d_F_domainBits_8 : decode b_F_domainBits 8 = .ok (.istore_n 2, 1) := by decide +kernel
theorem d_F_domainBits_9 : decode b_F_domainBits 9 = .ok (.iconst 0, 1) := by decide +kernel
theorem d_F_domainBits_10 : decode b_F_domainBits 10 = .ok (.istore_n 3, 1) := by decide +kernel
theorem d_F_domainBits_11 : decode b_F_domainBits 11 = .ok (.iload_n 3, 1) := by decide +kernel
theorem d_F_domainBits_12 : decode b_F_domainBits 12 = .ok (.bipush 8, 2) := by decide +kernel
theorem d_F_domainBits_14 : decode b_F_domainBits 14 = .ok (.if_icmp .ge 16, 3) := by decide +kernel
theorem d_F_domainBits_17 : decode b_F_domainBits 17 = .ok (.iconst 1, 1) := by decide +kernel
theorem d_F_domainBits_18 : decode b_F_domainBits 18 = .ok (.iload_n 3, 1) := by decide +kernel
theorem d_F_domainBits_19 : decode b_F_domainBits 19 = .ok (.ishl, 1) := by decide +kernel
theorem d_F_domainBits_20 : decode b_F_domainBits 20 = .ok (.iload_n 2, 1) := by decide +kernel
theorem d_F_domainBits_21 : decode b_F_domainBits 21 = .ok (.if_icmp .ge 9, 3) := by decide +kernel
theorem d_F_domainBits_24 : decode b_F_domainBits 24 = .ok (.iinc 3 1, 3) := by decide +kernel
theorem d_F_domainBits_27 : decode b_F_domainBits 27 = .ok (.goto (-16), 3) := by decide +kernel
theorem d_F_domainBits_30 : decode b_F_domainBits 30 = .ok (.iload_n 3, 1) := by decide +kernel
theorem d_F_domainBits_31 : decode b_F_domainBits 31 = .ok (.ireturn, 1) := by decide +kernel
theorem d_F_domainsOf_0 : decode b_F_domainsOf 0 = .ok (.iload_n 0, 1) := by decide +kernel
theorem d_F_domainsOf_1 : decode b_F_domainsOf 1 = .ok (.iload_n 1, 1) := by decide +kernel
theorem d_F_domainsOf_2 : decode b_F_domainsOf 2 = .ok (.invokestatic 287, 3) := by decide +kernel
theorem d_F_domainsOf_5 : decode b_F_domainsOf 5 = .ok (.istore_n 2, 1) := by decide +kernel
theorem d_F_domainsOf_6 : decode b_F_domainsOf 6 = .ok (.iload_n 2, 1) := by decide +kernel
theorem d_F_domainsOf_7 : decode b_F_domainsOf 7 = .ok (.iload_n 2, 1) := by decide +kernel
theorem d_F_domainsOf_8 : decode b_F_domainsOf 8 = .ok (.imul, 1) := by decide +kernel
theorem d_F_domainsOf_9 : decode b_F_domainsOf 9 = .ok (.ireturn, 1) := by decide +kernel
theorem d_F_domainsAcross_0 : decode b_F_domainsAcross 0 = .ok (.iload_n 1, 1) := by decide +kernel
theorem d_F_domainsAcross_1 : decode b_F_domainsAcross 1 = .ok (.iconst 1, 1) := by decide +kernel
theorem d_F_domainsAcross_2 : decode b_F_domainsAcross 2 = .ok (.if_icmp .lt 8, 3) := by decide +kernel
theorem d_F_domainsAcross_5 : decode b_F_domainsAcross 5 = .ok (.iload_n 1, 1) := by decide +kernel
theorem d_F_domainsAcross_6 : decode b_F_domainsAcross 6 = .ok (.iload_n 0, 1) := by decide +kernel
theorem d_F_domainsAcross_7 : decode b_F_domainsAcross 7 = .ok (.if_icmp .le 7, 3) := by decide +kernel
theorem d_F_domainsAcross_10 : decode b_F_domainsAcross 10 = .ok (.iconst 0, 1) := by decide +kernel
theorem d_F_domainsAcross_11 : decode b_F_domainsAcross 11 = .ok (.goto 8, 3) := by decide +kernel
theorem d_F_domainsAcross_14 : decode b_F_domainsAcross 14 = .ok (.iload_n 0, 1) := by decide +kernel
theorem d_F_domainsAcross_15 : decode b_F_domainsAcross 15 = .ok (.iload_n 1, 1) := by decide +kernel
theorem d_F_domainsAcross_16 : decode b_F_domainsAcross 16 = .ok (.idiv, 1) := by decide +kernel
theorem d_F_domainsAcross_17 : decode b_F_domainsAcross 17 = .ok (.iconst 1, 1) := by decide +kernel
theorem d_F_domainsAcross_18 : decode b_F_domainsAcross 18 = .ok (.isub, 1) := by decide +kernel
theorem d_F_domainsAcross_19 : decode b_F_domainsAcross 19 = .ok (.ireturn, 1) := by decide +kernel
theorem d_T_become_0 : decode b_T_become 0 = .ok (.aload_n 0, 1) := by decide +kernel
theorem d_T_become_1 : decode b_T_become 1 = .ok (.iload_n 1, 1) := by decide +kernel
theorem d_T_become_2 : decode b_T_become 2 = .ok (.putfield 7, 3) := by decide +kernel
theorem d_T_become_5 : decode b_T_become 5 = .ok (.aload_n 0, 1) := by decide +kernel
theorem d_T_become_6 : decode b_T_become 6 = .ok (.iload_n 2, 1) := by decide +kernel
theorem d_T_become_7 : decode b_T_become 7 = .ok (.putfield 13, 3) := by decide +kernel
theorem d_T_become_10 : decode b_T_become 10 = .ok (.aload_n 0, 1) := by decide +kernel
theorem d_T_become_11 : decode b_T_become 11 = .ok (.iload_n 3, 1) := by decide +kernel
theorem d_T_become_12 : decode b_T_become 12 = .ok (.putfield 16, 3) := by decide +kernel
theorem d_T_become_15 : decode b_T_become 15 = .ok (.aload_n 0, 1) := by decide +kernel
theorem d_T_become_16 : decode b_T_become 16 = .ok (.iload 4, 2) := by decide +kernel
theorem d_T_become_18 : decode b_T_become 18 = .ok (.putfield 19, 3) := by decide +kernel
theorem d_T_become_21 : decode b_T_become 21 = .ok (.aload_n 0, 1) := by decide +kernel
theorem d_T_become_22 : decode b_T_become 22 = .ok (.iload 5, 2) := by decide +kernel
