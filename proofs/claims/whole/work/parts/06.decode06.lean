theorem d_M_bitAt_14 : decode b_M_bitAt 14 = .ok (.irem, 1) := by decide +kernel
theorem d_M_bitAt_15 : decode b_M_bitAt 15 = .ok (.isub, 1) := by decide +kernel
theorem d_M_bitAt_16 : decode b_M_bitAt 16 = .ok (.ishr, 1) := by decide +kernel
theorem d_M_bitAt_17 : decode b_M_bitAt 17 = .ok (.iconst 1, 1) := by decide +kernel
theorem d_M_bitAt_18 : decode b_M_bitAt 18 = .ok (.iand, 1) := by decide +kernel
theorem d_M_bitAt_19 : decode b_M_bitAt 19 = .ok (.ireturn, 1) := by decide +kernel
theorem d_M_pileQuarters_0 : decode b_M_pileQuarters 0 = .ok (.iload_n 3, 1) := by decide +kernel
theorem d_M_pileQuarters_1 : decode b_M_pileQuarters 1 = .ok (.iconst 2, 1) := by decide +kernel
theorem d_M_pileQuarters_2 : decode b_M_pileQuarters 2 = .ok (.idiv, 1) := by decide +kernel
theorem d_M_pileQuarters_3 : decode b_M_pileQuarters 3 = .ok (.istore 4, 2) := by decide +kernel
theorem d_M_pileQuarters_5 : decode b_M_pileQuarters 5 = .ok (.aload_n 0, 1) := by decide +kernel
theorem d_M_pileQuarters_6 : decode b_M_pileQuarters 6 = .ok (.iload_n 1, 1) := by decide +kernel
theorem d_M_pileQuarters_7 : decode b_M_pileQuarters 7 = .ok (.iload 4, 2) := by decide +kernel
theorem d_M_pileQuarters_9 : decode b_M_pileQuarters 9 = .ok (.iadd, 1) := by decide +kernel
theorem d_M_pileQuarters_10 : decode b_M_pileQuarters 10 = .ok (.iload_n 2, 1) := by decide +kernel
theorem d_M_pileQuarters_11 : decode b_M_pileQuarters 11 = .ok (.iload 4, 2) := by decide +kernel
theorem d_M_pileQuarters_13 : decode b_M_pileQuarters 13 = .ok (.iadd, 1) := by decide +kernel
theorem d_M_pileQuarters_14 : decode b_M_pileQuarters 14 = .ok (.iload 4, 2) := by decide +kernel
theorem d_M_pileQuarters_16 : decode b_M_pileQuarters 16 = .ok (.invokevirtual 117, 3) := by decide +kernel
theorem d_M_pileQuarters_19 : decode b_M_pileQuarters 19 = .ok (.aload_n 0, 1) := by decide +kernel
theorem d_M_pileQuarters_20 : decode b_M_pileQuarters 20 = .ok (.iload_n 1, 1) := by decide +kernel
theorem d_M_pileQuarters_21 : decode b_M_pileQuarters 21 = .ok (.iload_n 2, 1) := by decide +kernel
theorem d_M_pileQuarters_22 : decode b_M_pileQuarters 22 = .ok (.iload 4, 2) := by decide +kernel
theorem d_M_pileQuarters_24 : decode b_M_pileQuarters 24 = .ok (.iadd, 1) := by decide +kernel
theorem d_M_pileQuarters_25 : decode b_M_pileQuarters 25 = .ok (.iload 4, 2) := by decide +kernel
theorem d_M_pileQuarters_27 : decode b_M_pileQuarters 27 = .ok (.invokevirtual 117, 3) := by decide +kernel
theorem d_M_pileQuarters_30 : decode b_M_pileQuarters 30 = .ok (.aload_n 0, 1) := by decide +kernel
theorem d_M_pileQuarters_31 : decode b_M_pileQuarters 31 = .ok (.iload_n 1, 1) := by decide +kernel
theorem d_M_pileQuarters_32 : decode b_M_pileQuarters 32 = .ok (.iload 4, 2) := by decide +kernel
theorem d_M_pileQuarters_34 : decode b_M_pileQuarters 34 = .ok (.iadd, 1) := by decide +kernel
theorem d_M_pileQuarters_35 : decode b_M_pileQuarters 35 = .ok (.iload_n 2, 1) := by decide +kernel
theorem d_M_pileQuarters_36 : decode b_M_pileQuarters 36 = .ok (.iload 4, 2) := by decide +kernel
theorem d_M_pileQuarters_38 : decode b_M_pileQuarters 38 = .ok (.invokevirtual 117, 3) := by decide +kernel
theorem d_M_pileQuarters_41 : decode b_M_pileQuarters 41 = .ok (.aload_n 0, 1) := by decide +kernel
theorem d_M_pileQuarters_42 : decode b_M_pileQuarters 42 = .ok (.iload_n 1, 1) := by decide +kernel
theorem d_M_pileQuarters_43 : decode b_M_pileQuarters 43 = .ok (.iload_n 2, 1) := by decide +kernel
theorem d_M_pileQuarters_44 : decode b_M_pileQuarters 44 = .ok (.iload 4, 2) := by decide +kernel
theorem d_M_pileQuarters_46 : decode b_M_pileQuarters 46 = .ok (.invokevirtual 117, 3) := by decide +kernel
theorem d_M_pileQuarters_49 : decode b_M_pileQuarters 49 = .ok (.return_, 1) := by decide +kernel
theorem d_M_pileUp_0 : decode b_M_pileUp 0 = .ok (.aload_n 0, 1) := by decide +kernel
theorem d_M_pileUp_1 : decode b_M_pileUp 1 = .ok (.getfield 25, 3) := by decide +kernel
theorem d_M_pileUp_4 : decode b_M_pileUp 4 = .ok (.iconst 3, 1) := by decide +kernel
theorem d_M_pileUp_5 : decode b_M_pileUp 5 = .ok (.aload_n 0, 1) := by decide +kernel
theorem d_M_pileUp_6 : decode b_M_pileUp 6 = .ok (.getfield 114, 3) := by decide +kernel
theorem d_M_pileUp_9 : decode b_M_pileUp 9 = .ok (.imul, 1) := by decide +kernel
theorem d_M_pileUp_10 : decode b_M_pileUp 10 = .ok (.iload_n 1, 1) := by decide +kernel
theorem d_M_pileUp_11 : decode b_M_pileUp 11 = .ok (.iastore, 1) := by decide +kernel
theorem d_M_pileUp_12 : decode b_M_pileUp 12 = .ok (.aload_n 0, 1) := by decide +kernel
theorem d_M_pileUp_13 : decode b_M_pileUp 13 = .ok (.getfield 25, 3) := by decide +kernel
theorem d_M_pileUp_16 : decode b_M_pileUp 16 = .ok (.iconst 3, 1) := by decide +kernel
theorem d_M_pileUp_17 : decode b_M_pileUp 17 = .ok (.aload_n 0, 1) := by decide +kernel
theorem d_M_pileUp_18 : decode b_M_pileUp 18 = .ok (.getfield 114, 3) := by decide +kernel
theorem d_M_pileUp_21 : decode b_M_pileUp 21 = .ok (.imul, 1) := by decide +kernel
theorem d_M_pileUp_22 : decode b_M_pileUp 22 = .ok (.iconst 1, 1) := by decide +kernel
theorem d_M_pileUp_23 : decode b_M_pileUp 23 = .ok (.iadd, 1) := by decide +kernel
theorem d_M_pileUp_24 : decode b_M_pileUp 24 = .ok (.iload_n 2, 1) := by decide +kernel
theorem d_M_pileUp_25 : decode b_M_pileUp 25 = .ok (.iastore, 1) := by decide +kernel
theorem d_M_pileUp_26 : decode b_M_pileUp 26 = .ok (.aload_n 0, 1) := by decide +kernel
theorem d_M_pileUp_27 : decode b_M_pileUp 27 = .ok (.getfield 25, 3) := by decide +kernel
theorem d_M_pileUp_30 : decode b_M_pileUp 30 = .ok (.iconst 3, 1) := by decide +kernel
theorem d_M_pileUp_31 : decode b_M_pileUp 31 = .ok (.aload_n 0, 1) := by decide +kernel
theorem d_M_pileUp_32 : decode b_M_pileUp 32 = .ok (.getfield 114, 3) := by decide +kernel
theorem d_M_pileUp_35 : decode b_M_pileUp 35 = .ok (.imul, 1) := by decide +kernel
theorem d_M_pileUp_36 : decode b_M_pileUp 36 = .ok (.iconst 2, 1) := by decide +kernel
theorem d_M_pileUp_37 : decode b_M_pileUp 37 = .ok (.iadd, 1) := by decide +kernel
theorem d_M_pileUp_38 : decode b_M_pileUp 38 = .ok (.iload_n 3, 1) := by decide +kernel
theorem d_M_pileUp_39 : decode b_M_pileUp 39 = .ok (.iastore, 1) := by decide +kernel
theorem d_M_pileUp_40 : decode b_M_pileUp 40 = .ok (.aload_n 0, 1) := by decide +kernel
theorem d_M_pileUp_41 : decode b_M_pileUp 41 = .ok (.dup, 1) := by decide +kernel
theorem d_M_pileUp_42 : decode b_M_pileUp 42 = .ok (.getfield 114, 3) := by decide +kernel
theorem d_M_pileUp_45 : decode b_M_pileUp 45 = .ok (.iconst 1, 1) := by decide +kernel
theorem d_M_pileUp_46 : decode b_M_pileUp 46 = .ok (.iadd, 1) := by decide +kernel
theorem d_M_pileUp_47 : decode b_M_pileUp 47 = .ok (.putfield 114, 3) := by decide +kernel
theorem d_M_pileUp_50 : decode b_M_pileUp 50 = .ok (.return_, 1) := by decide +kernel
theorem d_M_takeFound_0 : decode b_M_takeFound 0 = .ok (.iconst 0, 1) := by decide +kernel
theorem d_M_takeFound_1 : decode b_M_takeFound 1 = .ok (.istore_n 1, 1) := by decide +kernel
theorem d_M_takeFound_2 : decode b_M_takeFound 2 = .ok (.iload_n 1, 1) := by decide +kernel
theorem d_M_takeFound_3 : decode b_M_takeFound 3 = .ok (.bipush 8, 2) := by decide +kernel
theorem d_M_takeFound_5 : decode b_M_takeFound 5 = .ok (.aload_n 0, 1) := by decide +kernel
theorem d_M_takeFound_6 : decode b_M_takeFound 6 = .ok (.getfield 120, 3) := by decide +kernel
theorem d_M_takeFound_9 : decode b_M_takeFound 9 = .ok (.imul, 1) := by decide +kernel
theorem d_M_takeFound_10 : decode b_M_takeFound 10 = .ok (.if_icmp .ge 25, 3) := by decide +kernel
theorem d_M_takeFound_13 : decode b_M_takeFound 13 = .ok (.aload_n 0, 1) := by decide +kernel
theorem d_M_takeFound_14 : decode b_M_takeFound 14 = .ok (.getfield 16, 3) := by decide +kernel
theorem d_M_takeFound_17 : decode b_M_takeFound 17 = .ok (.iload_n 1, 1) := by decide +kernel
theorem d_M_takeFound_18 : decode b_M_takeFound 18 = .ok (.aload_n 0, 1) := by decide +kernel
theorem d_M_takeFound_19 : decode b_M_takeFound 19 = .ok (.getfield 16, 3) := by decide +kernel
theorem d_M_takeFound_22 : decode b_M_takeFound 22 = .ok (.sipush 2048, 3) := by decide +kernel
theorem d_M_takeFound_25 : decode b_M_takeFound 25 = .ok (.iload_n 1, 1) := by decide +kernel
theorem d_M_takeFound_26 : decode b_M_takeFound 26 = .ok (.iadd, 1) := by decide +kernel
theorem d_M_takeFound_27 : decode b_M_takeFound 27 = .ok (.iaload, 1) := by decide +kernel
theorem d_M_takeFound_28 : decode b_M_takeFound 28 = .ok (.iastore, 1) := by decide +kernel
theorem d_M_takeFound_29 : decode b_M_takeFound 29 = .ok (.iinc 1 1, 3) := by decide +kernel
theorem d_M_takeFound_32 : decode b_M_takeFound 32 = .ok (.goto (-30), 3) := by decide +kernel
theorem d_M_takeFound_35 : decode b_M_takeFound 35 = .ok (.aload_n 0, 1) := by decide +kernel
theorem d_M_takeFound_36 : decode b_M_takeFound 36 = .ok (.aload_n 0, 1) := by decide +kernel
theorem d_M_takeFound_37 : decode b_M_takeFound 37 = .ok (.getfield 120, 3) := by decide +kernel
theorem d_M_takeFound_40 : decode b_M_takeFound 40 = .ok (.putfield 123, 3) := by decide +kernel
theorem d_M_takeFound_43 : decode b_M_takeFound 43 = .ok (.return_, 1) := by decide +kernel
theorem d_M_readBlock_0 : decode b_M_readBlock 0 = .ok (.aload_n 0, 1) := by decide +kernel
theorem d_M_readBlock_1 : decode b_M_readBlock 1 = .ok (.getfield 43, 3) := by decide +kernel
theorem d_M_readBlock_4 : decode b_M_readBlock 4 = .ok (.iconst 0, 1) := by decide +kernel
theorem d_M_readBlock_5 : decode b_M_readBlock 5 = .ok (.aload_n 0, 1) := by decide +kernel
theorem d_M_readBlock_6 : decode b_M_readBlock 6 = .ok (.aload_n 0, 1) := by decide +kernel
theorem d_M_readBlock_7 : decode b_M_readBlock 7 = .ok (.iload_n 3, 1) := by decide +kernel
theorem d_M_readBlock_8 : decode b_M_readBlock 8 = .ok (.invokevirtual 151, 3) := by decide +kernel
theorem d_M_readBlock_11 : decode b_M_readBlock 11 = .ok (.invokevirtual 175, 3) := by decide +kernel
theorem d_M_readBlock_14 : decode b_M_readBlock 14 = .ok (.iastore, 1) := by decide +kernel
theorem d_M_readBlock_15 : decode b_M_readBlock 15 = .ok (.aload_n 0, 1) := by decide +kernel
theorem d_M_readBlock_16 : decode b_M_readBlock 16 = .ok (.aload_n 0, 1) := by decide +kernel
theorem d_M_readBlock_17 : decode b_M_readBlock 17 = .ok (.getfield 166, 3) := by decide +kernel
theorem d_M_readBlock_20 : decode b_M_readBlock 20 = .ok (.ifCond .ge 27, 3) := by decide +kernel
theorem d_M_readBlock_23 : decode b_M_readBlock 23 = .ok (.aload_n 0, 1) := by decide +kernel
theorem d_M_readBlock_24 : decode b_M_readBlock 24 = .ok (.getfield 43, 3) := by decide +kernel
theorem d_M_readBlock_27 : decode b_M_readBlock 27 = .ok (.iconst 0, 1) := by decide +kernel
theorem d_M_readBlock_28 : decode b_M_readBlock 28 = .ok (.iaload, 1) := by decide +kernel
theorem d_M_readBlock_29 : decode b_M_readBlock 29 = .ok (.aload_n 0, 1) := by decide +kernel
theorem d_M_readBlock_30 : decode b_M_readBlock 30 = .ok (.iload_n 3, 1) := by decide +kernel
theorem d_M_readBlock_31 : decode b_M_readBlock 31 = .ok (.invokevirtual 69, 3) := by decide +kernel
theorem d_M_readBlock_34 : decode b_M_readBlock 34 = .ok (.aload_n 0, 1) := by decide +kernel
theorem d_M_readBlock_35 : decode b_M_readBlock 35 = .ok (.iload_n 3, 1) := by decide +kernel
theorem d_M_readBlock_36 : decode b_M_readBlock 36 = .ok (.invokevirtual 69, 3) := by decide +kernel
theorem d_M_readBlock_39 : decode b_M_readBlock 39 = .ok (.imul, 1) := by decide +kernel
theorem d_M_readBlock_40 : decode b_M_readBlock 40 = .ok (.if_icmp .lt 7, 3) := by decide +kernel
theorem d_M_readBlock_43 : decode b_M_readBlock 43 = .ok (.iconst 1, 1) := by decide +kernel
theorem d_M_readBlock_44 : decode b_M_readBlock 44 = .ok (.goto 7, 3) := by decide +kernel
theorem d_M_readBlock_47 : decode b_M_readBlock 47 = .ok (.aload_n 0, 1) := by decide +kernel
theorem d_M_readBlock_48 : decode b_M_readBlock 48 = .ok (.getfield 166, 3) := by decide +kernel
theorem d_M_readBlock_51 : decode b_M_readBlock 51 = .ok (.putfield 166, 3) := by decide +kernel
theorem d_M_readBlock_54 : decode b_M_readBlock 54 = .ok (.aload_n 0, 1) := by decide +kernel
theorem d_M_readBlock_55 : decode b_M_readBlock 55 = .ok (.getfield 43, 3) := by decide +kernel
theorem d_M_readBlock_58 : decode b_M_readBlock 58 = .ok (.iconst 1, 1) := by decide +kernel
theorem d_M_readBlock_59 : decode b_M_readBlock 59 = .ok (.aload_n 0, 1) := by decide +kernel
theorem d_M_readBlock_60 : decode b_M_readBlock 60 = .ok (.iconst 3, 1) := by decide +kernel
theorem d_M_readBlock_61 : decode b_M_readBlock 61 = .ok (.invokevirtual 175, 3) := by decide +kernel
theorem d_M_readBlock_64 : decode b_M_readBlock 64 = .ok (.iastore, 1) := by decide +kernel
theorem d_M_readBlock_65 : decode b_M_readBlock 65 = .ok (.aload_n 0, 1) := by decide +kernel
theorem d_M_readBlock_66 : decode b_M_readBlock 66 = .ok (.getfield 43, 3) := by decide +kernel
theorem d_M_readBlock_69 : decode b_M_readBlock 69 = .ok (.iconst 2, 1) := by decide +kernel
theorem d_M_readBlock_70 : decode b_M_readBlock 70 = .ok (.aload_n 0, 1) := by decide +kernel
theorem d_M_readBlock_71 : decode b_M_readBlock 71 = .ok (.iconst 4, 1) := by decide +kernel
theorem d_M_readBlock_72 : decode b_M_readBlock 72 = .ok (.invokevirtual 175, 3) := by decide +kernel
theorem d_M_readBlock_75 : decode b_M_readBlock 75 = .ok (.bipush 7, 2) := by decide +kernel
theorem d_M_readBlock_77 : decode b_M_readBlock 77 = .ok (.isub, 1) := by decide +kernel
theorem d_M_readBlock_78 : decode b_M_readBlock 78 = .ok (.iastore, 1) := by decide +kernel
theorem d_M_readBlock_79 : decode b_M_readBlock 79 = .ok (.aload_n 0, 1) := by decide +kernel
theorem d_M_readBlock_80 : decode b_M_readBlock 80 = .ok (.aload_n 0, 1) := by decide +kernel
theorem d_M_readBlock_81 : decode b_M_readBlock 81 = .ok (.getfield 166, 3) := by decide +kernel
theorem d_M_readBlock_84 : decode b_M_readBlock 84 = .ok (.ifCond .ge 18, 3) := by decide +kernel
theorem d_M_readBlock_87 : decode b_M_readBlock 87 = .ok (.aload_n 0, 1) := by decide +kernel
theorem d_M_readBlock_88 : decode b_M_readBlock 88 = .ok (.getfield 43, 3) := by decide +kernel
theorem d_M_readBlock_91 : decode b_M_readBlock 91 = .ok (.iconst 2, 1) := by decide +kernel
theorem d_M_readBlock_92 : decode b_M_readBlock 92 = .ok (.iaload, 1) := by decide +kernel
theorem d_M_readBlock_93 : decode b_M_readBlock 93 = .ok (.bipush 7, 2) := by decide +kernel
theorem d_M_readBlock_95 : decode b_M_readBlock 95 = .ok (.if_icmp .le 7, 3) := by decide +kernel
theorem d_M_readBlock_98 : decode b_M_readBlock 98 = .ok (.iconst 2, 1) := by decide +kernel
theorem d_M_readBlock_99 : decode b_M_readBlock 99 = .ok (.goto 7, 3) := by decide +kernel
theorem d_M_readBlock_102 : decode b_M_readBlock 102 = .ok (.aload_n 0, 1) := by decide +kernel
theorem d_M_readBlock_103 : decode b_M_readBlock 103 = .ok (.getfield 166, 3) := by decide +kernel
theorem d_M_readBlock_106 : decode b_M_readBlock 106 = .ok (.putfield 166, 3) := by decide +kernel
theorem d_M_readBlock_109 : decode b_M_readBlock 109 = .ok (.aload_n 0, 1) := by decide +kernel
theorem d_M_readBlock_110 : decode b_M_readBlock 110 = .ok (.getfield 43, 3) := by decide +kernel
theorem d_M_readBlock_113 : decode b_M_readBlock 113 = .ok (.iconst 3, 1) := by decide +kernel
theorem d_M_readBlock_114 : decode b_M_readBlock 114 = .ok (.aload_n 0, 1) := by decide +kernel
theorem d_M_readBlock_115 : decode b_M_readBlock 115 = .ok (.bipush 10, 2) := by decide +kernel
theorem d_M_readBlock_117 : decode b_M_readBlock 117 = .ok (.invokevirtual 175, 3) := by decide +kernel
theorem d_M_readBlock_120 : decode b_M_readBlock 120 = .ok (.sipush 256, 3) := by decide +kernel
theorem d_M_readBlock_123 : decode b_M_readBlock 123 = .ok (.isub, 1) := by decide +kernel
theorem d_M_readBlock_124 : decode b_M_readBlock 124 = .ok (.iastore, 1) := by decide +kernel
theorem d_M_readBlock_125 : decode b_M_readBlock 125 = .ok (.aload_n 0, 1) := by decide +kernel
theorem d_M_readBlock_126 : decode b_M_readBlock 126 = .ok (.getfield 166, 3) := by decide +kernel
theorem d_M_readBlock_129 : decode b_M_readBlock 129 = .ok (.ifCond .ge 11, 3) := by decide +kernel
theorem d_M_readBlock_132 : decode b_M_readBlock 132 = .ok (.aload_n 0, 1) := by decide +kernel
theorem d_M_readBlock_133 : decode b_M_readBlock 133 = .ok (.iload_n 1, 1) := by decide +kernel
theorem d_M_readBlock_134 : decode b_M_readBlock 134 = .ok (.iload_n 2, 1) := by decide +kernel
theorem d_M_readBlock_135 : decode b_M_readBlock 135 = .ok (.iload_n 3, 1) := by decide +kernel
theorem d_M_readBlock_136 : decode b_M_readBlock 136 = .ok (.iconst (-1), 1) := by decide +kernel
theorem d_M_readBlock_137 : decode b_M_readBlock 137 = .ok (.invokevirtual 147, 3) := by decide +kernel
theorem d_M_readBlock_140 : decode b_M_readBlock 140 = .ok (.return_, 1) := by decide +kernel
theorem d_M_bitsFor_0 : decode b_M_bitsFor 0 = .ok (.aload_n 0, 1) := by decide +kernel
theorem d_M_bitsFor_1 : decode b_M_bitsFor 1 = .ok (.iload_n 1, 1) := by decide +kernel
theorem d_M_bitsFor_2 : decode b_M_bitsFor 2 = .ok (.invokevirtual 69, 3) := by decide +kernel
theorem d_M_bitsFor_5 : decode b_M_bitsFor 5 = .ok (.aload_n 0, 1) := by decide +kernel
theorem d_M_bitsFor_6 : decode b_M_bitsFor 6 = .ok (.iload_n 1, 1) := by decide +kernel
theorem d_M_bitsFor_7 : decode b_M_bitsFor 7 = .ok (.invokevirtual 69, 3) := by decide +kernel
theorem d_M_bitsFor_10 : decode b_M_bitsFor 10 = .ok (.imul, 1) := by decide +kernel
theorem d_M_bitsFor_11 : decode b_M_bitsFor 11 = .ok (.istore_n 2, 1) := by decide +kernel
theorem d_M_bitsFor_12 : decode b_M_bitsFor 12 = .ok (.iconst 0, 1) := by decide +kernel
theorem d_M_bitsFor_13 : decode b_M_bitsFor 13 = .ok (.istore_n 3, 1) := by decide +kernel
theorem d_M_bitsFor_14 : decode b_M_bitsFor 14 = .ok (.iconst 1, 1) := by decide +kernel
theorem d_M_bitsFor_15 : decode b_M_bitsFor 15 = .ok (.istore 4, 2) := by decide +kernel
theorem d_M_bitsFor_17 : decode b_M_bitsFor 17 = .ok (.iload 4, 2) := by decide +kernel
theorem d_M_bitsFor_19 : decode b_M_bitsFor 19 = .ok (.iload_n 2, 1) := by decide +kernel
theorem d_M_bitsFor_20 : decode b_M_bitsFor 20 = .ok (.if_icmp .ge 15, 3) := by decide +kernel
theorem d_M_bitsFor_23 : decode b_M_bitsFor 23 = .ok (.iconst 2, 1) := by decide +kernel
theorem d_M_bitsFor_24 : decode b_M_bitsFor 24 = .ok (.iload 4, 2) := by decide +kernel
theorem d_M_bitsFor_26 : decode b_M_bitsFor 26 = .ok (.imul, 1) := by decide +kernel
theorem d_M_bitsFor_27 : decode b_M_bitsFor 27 = .ok (.istore 4, 2) := by decide +kernel
theorem d_M_bitsFor_29 : decode b_M_bitsFor 29 = .ok (.iinc 3 1, 3) := by decide +kernel
theorem d_M_bitsFor_32 : decode b_M_bitsFor 32 = .ok (.goto (-15), 3) := by decide +kernel
theorem d_M_bitsFor_35 : decode b_M_bitsFor 35 = .ok (.iload_n 3, 1) := by decide +kernel
theorem d_M_bitsFor_36 : decode b_M_bitsFor 36 = .ok (.ireturn, 1) := by decide +kernel
theorem d_M_domains_0 : decode b_M_domains 0 = .ok (.aload_n 0, 1) := by decide +kernel
theorem d_M_domains_1 : decode b_M_domains 1 = .ok (.getfield 46, 3) := by decide +kernel
theorem d_M_domains_4 : decode b_M_domains 4 = .ok (.iconst 2, 1) := by decide +kernel
theorem d_M_domains_5 : decode b_M_domains 5 = .ok (.iload_n 1, 1) := by decide +kernel
theorem d_M_domains_6 : decode b_M_domains 6 = .ok (.imul, 1) := by decide +kernel
theorem d_M_domains_7 : decode b_M_domains 7 = .ok (.isub, 1) := by decide +kernel
theorem d_M_domains_8 : decode b_M_domains 8 = .ok (.iload_n 1, 1) := by decide +kernel
theorem d_M_domains_9 : decode b_M_domains 9 = .ok (.idiv, 1) := by decide +kernel
theorem d_M_domains_10 : decode b_M_domains 10 = .ok (.iconst 1, 1) := by decide +kernel
theorem d_M_domains_11 : decode b_M_domains 11 = .ok (.iadd, 1) := by decide +kernel
theorem d_M_domains_12 : decode b_M_domains 12 = .ok (.ireturn, 1) := by decide +kernel
theorem d_M_note_0 : decode b_M_note 0 = .ok (.bipush 8, 2) := by decide +kernel
theorem d_M_note_2 : decode b_M_note 2 = .ok (.sipush 256, 3) := by decide +kernel
theorem d_M_note_5 : decode b_M_note 5 = .ok (.aload_n 0, 1) := by decide +kernel
theorem d_M_note_6 : decode b_M_note 6 = .ok (.getfield 120, 3) := by decide +kernel
theorem d_M_note_9 : decode b_M_note 9 = .ok (.iadd, 1) := by decide +kernel
theorem d_M_note_10 : decode b_M_note 10 = .ok (.imul, 1) := by decide +kernel
theorem d_M_note_11 : decode b_M_note 11 = .ok (.istore 5, 2) := by decide +kernel
theorem d_M_note_13 : decode b_M_note 13 = .ok (.aload_n 0, 1) := by decide +kernel
theorem d_M_note_14 : decode b_M_note 14 = .ok (.getfield 16, 3) := by decide +kernel
theorem d_M_note_17 : decode b_M_note 17 = .ok (.iload 5, 2) := by decide +kernel
theorem d_M_note_19 : decode b_M_note 19 = .ok (.iload_n 1, 1) := by decide +kernel
theorem d_M_note_20 : decode b_M_note 20 = .ok (.iastore, 1) := by decide +kernel
theorem d_M_note_21 : decode b_M_note 21 = .ok (.aload_n 0, 1) := by decide +kernel
theorem d_M_note_22 : decode b_M_note 22 = .ok (.getfield 16, 3) := by decide +kernel
theorem d_M_note_25 : decode b_M_note 25 = .ok (.iload 5, 2) := by decide +kernel
theorem d_M_note_27 : decode b_M_note 27 = .ok (.iconst 1, 1) := by decide +kernel
theorem d_M_note_28 : decode b_M_note 28 = .ok (.iadd, 1) := by decide +kernel
theorem d_M_note_29 : decode b_M_note 29 = .ok (.iload_n 2, 1) := by decide +kernel
theorem d_M_note_30 : decode b_M_note 30 = .ok (.iastore, 1) := by decide +kernel
theorem d_M_note_31 : decode b_M_note 31 = .ok (.aload_n 0, 1) := by decide +kernel
theorem d_M_note_32 : decode b_M_note 32 = .ok (.getfield 16, 3) := by decide +kernel
theorem d_M_note_35 : decode b_M_note 35 = .ok (.iload 5, 2) := by decide +kernel
theorem d_M_note_37 : decode b_M_note 37 = .ok (.iconst 2, 1) := by decide +kernel
theorem d_M_note_38 : decode b_M_note 38 = .ok (.iadd, 1) := by decide +kernel
theorem d_M_note_39 : decode b_M_note 39 = .ok (.iload_n 3, 1) := by decide +kernel
theorem d_M_note_40 : decode b_M_note 40 = .ok (.iastore, 1) := by decide +kernel
theorem d_M_note_41 : decode b_M_note 41 = .ok (.iconst 0, 1) := by decide +kernel
theorem d_M_note_42 : decode b_M_note 42 = .ok (.istore 6, 2) := by decide +kernel
theorem d_M_note_44 : decode b_M_note 44 = .ok (.iload 6, 2) := by decide +kernel
theorem d_M_note_46 : decode b_M_note 46 = .ok (.iconst 4, 1) := by decide +kernel
theorem d_M_note_47 : decode b_M_note 47 = .ok (.if_icmp .ge 28, 3) := by decide +kernel
theorem d_M_note_50 : decode b_M_note 50 = .ok (.aload_n 0, 1) := by decide +kernel
theorem d_M_note_51 : decode b_M_note 51 = .ok (.getfield 16, 3) := by decide +kernel
theorem d_M_note_54 : decode b_M_note 54 = .ok (.iload 5, 2) := by decide +kernel
theorem d_M_note_56 : decode b_M_note 56 = .ok (.iconst 3, 1) := by decide +kernel
theorem d_M_note_57 : decode b_M_note 57 = .ok (.iadd, 1) := by decide +kernel
theorem d_M_note_58 : decode b_M_note 58 = .ok (.iload 6, 2) := by decide +kernel
