theorem d_M_tell_13 : decode b_M_tell 13 = .ok (.imul, 1) := by decide +kernel
theorem d_M_tell_14 : decode b_M_tell 14 = .ok (.istore_n 3, 1) := by decide +kernel
theorem d_M_tell_15 : decode b_M_tell 15 = .ok (.iinc 4 1, 3) := by decide +kernel
theorem d_M_tell_18 : decode b_M_tell 18 = .ok (.goto (-13), 3) := by decide +kernel
theorem d_M_tell_21 : decode b_M_tell 21 = .ok (.iconst 0, 1) := by decide +kernel
theorem d_M_tell_22 : decode b_M_tell 22 = .ok (.istore 4, 2) := by decide +kernel
theorem d_M_tell_24 : decode b_M_tell 24 = .ok (.iload 4, 2) := by decide +kernel
theorem d_M_tell_26 : decode b_M_tell 26 = .ok (.iload_n 2, 1) := by decide +kernel
theorem d_M_tell_27 : decode b_M_tell 27 = .ok (.if_icmp .ge 86, 3) := by decide +kernel
theorem d_M_tell_30 : decode b_M_tell 30 = .ok (.aload_n 0, 1) := by decide +kernel
theorem d_M_tell_31 : decode b_M_tell 31 = .ok (.getfield 126, 3) := by decide +kernel
theorem d_M_tell_34 : decode b_M_tell 34 = .ok (.bipush 8, 2) := by decide +kernel
theorem d_M_tell_36 : decode b_M_tell 36 = .ok (.idiv, 1) := by decide +kernel
theorem d_M_tell_37 : decode b_M_tell 37 = .ok (.istore 5, 2) := by decide +kernel
theorem d_M_tell_39 : decode b_M_tell 39 = .ok (.aload_n 0, 1) := by decide +kernel
theorem d_M_tell_40 : decode b_M_tell 40 = .ok (.getfield 19, 3) := by decide +kernel
theorem d_M_tell_43 : decode b_M_tell 43 = .ok (.iload 5, 2) := by decide +kernel
theorem d_M_tell_45 : decode b_M_tell 45 = .ok (.aload_n 0, 1) := by decide +kernel
theorem d_M_tell_46 : decode b_M_tell 46 = .ok (.getfield 126, 3) := by decide +kernel
theorem d_M_tell_49 : decode b_M_tell 49 = .ok (.bipush 8, 2) := by decide +kernel
theorem d_M_tell_51 : decode b_M_tell 51 = .ok (.irem, 1) := by decide +kernel
theorem d_M_tell_52 : decode b_M_tell 52 = .ok (.ifCond .ne 7, 3) := by decide +kernel
theorem d_M_tell_55 : decode b_M_tell 55 = .ok (.iconst 0, 1) := by decide +kernel
theorem d_M_tell_56 : decode b_M_tell 56 = .ok (.goto 10, 3) := by decide +kernel
theorem d_M_tell_59 : decode b_M_tell 59 = .ok (.aload_n 0, 1) := by decide +kernel
theorem d_M_tell_60 : decode b_M_tell 60 = .ok (.getfield 19, 3) := by decide +kernel
theorem d_M_tell_63 : decode b_M_tell 63 = .ok (.iload 5, 2) := by decide +kernel
theorem d_M_tell_65 : decode b_M_tell 65 = .ok (.iaload, 1) := by decide +kernel
theorem d_M_tell_66 : decode b_M_tell 66 = .ok (.iastore, 1) := by decide +kernel
theorem d_M_tell_67 : decode b_M_tell 67 = .ok (.aload_n 0, 1) := by decide +kernel
theorem d_M_tell_68 : decode b_M_tell 68 = .ok (.getfield 19, 3) := by decide +kernel
theorem d_M_tell_71 : decode b_M_tell 71 = .ok (.iload 5, 2) := by decide +kernel
theorem d_M_tell_73 : decode b_M_tell 73 = .ok (.dup2, 1) := by decide +kernel
theorem d_M_tell_74 : decode b_M_tell 74 = .ok (.iaload, 1) := by decide +kernel
theorem d_M_tell_75 : decode b_M_tell 75 = .ok (.iload_n 1, 1) := by decide +kernel
theorem d_M_tell_76 : decode b_M_tell 76 = .ok (.iload_n 3, 1) := by decide +kernel
theorem d_M_tell_77 : decode b_M_tell 77 = .ok (.idiv, 1) := by decide +kernel
theorem d_M_tell_78 : decode b_M_tell 78 = .ok (.iconst 2, 1) := by decide +kernel
theorem d_M_tell_79 : decode b_M_tell 79 = .ok (.irem, 1) := by decide +kernel
theorem d_M_tell_80 : decode b_M_tell 80 = .ok (.bipush 7, 2) := by decide +kernel
theorem d_M_tell_82 : decode b_M_tell 82 = .ok (.aload_n 0, 1) := by decide +kernel
theorem d_M_tell_83 : decode b_M_tell 83 = .ok (.getfield 126, 3) := by decide +kernel
theorem d_M_tell_86 : decode b_M_tell 86 = .ok (.bipush 8, 2) := by decide +kernel
theorem d_M_tell_88 : decode b_M_tell 88 = .ok (.irem, 1) := by decide +kernel
theorem d_M_tell_89 : decode b_M_tell 89 = .ok (.isub, 1) := by decide +kernel
theorem d_M_tell_90 : decode b_M_tell 90 = .ok (.ishl, 1) := by decide +kernel
theorem d_M_tell_91 : decode b_M_tell 91 = .ok (.iadd, 1) := by decide +kernel
theorem d_M_tell_92 : decode b_M_tell 92 = .ok (.iastore, 1) := by decide +kernel
theorem d_M_tell_93 : decode b_M_tell 93 = .ok (.aload_n 0, 1) := by decide +kernel
theorem d_M_tell_94 : decode b_M_tell 94 = .ok (.dup, 1) := by decide +kernel
theorem d_M_tell_95 : decode b_M_tell 95 = .ok (.getfield 126, 3) := by decide +kernel
theorem d_M_tell_98 : decode b_M_tell 98 = .ok (.iconst 1, 1) := by decide +kernel
theorem d_M_tell_99 : decode b_M_tell 99 = .ok (.iadd, 1) := by decide +kernel
theorem d_M_tell_100 : decode b_M_tell 100 = .ok (.putfield 126, 3) := by decide +kernel
theorem d_M_tell_103 : decode b_M_tell 103 = .ok (.iload_n 3, 1) := by decide +kernel
theorem d_M_tell_104 : decode b_M_tell 104 = .ok (.iconst 2, 1) := by decide +kernel
theorem d_M_tell_105 : decode b_M_tell 105 = .ok (.idiv, 1) := by decide +kernel
theorem d_M_tell_106 : decode b_M_tell 106 = .ok (.istore_n 3, 1) := by decide +kernel
theorem d_M_tell_107 : decode b_M_tell 107 = .ok (.iinc 4 1, 3) := by decide +kernel
theorem d_M_tell_110 : decode b_M_tell 110 = .ok (.goto (-86), 3) := by decide +kernel
theorem d_M_tell_113 : decode b_M_tell 113 = .ok (.return_, 1) := by decide +kernel
theorem d_M_search_0 : decode b_M_search 0 = .ok (.aload_n 0, 1) := by decide +kernel
theorem d_M_search_1 : decode b_M_search 1 = .ok (.iload_n 1, 1) := by decide +kernel
theorem d_M_search_2 : decode b_M_search 2 = .ok (.iload_n 2, 1) := by decide +kernel
theorem d_M_search_3 : decode b_M_search 3 = .ok (.iload_n 3, 1) := by decide +kernel
theorem d_M_search_4 : decode b_M_search 4 = .ok (.invokevirtual 95, 3) := by decide +kernel
theorem d_M_search_7 : decode b_M_search 7 = .ok (.aload_n 0, 1) := by decide +kernel
theorem d_M_search_8 : decode b_M_search 8 = .ok (.getfield 40, 3) := by decide +kernel
theorem d_M_search_11 : decode b_M_search 11 = .ok (.iload_n 3, 1) := by decide +kernel
theorem d_M_search_12 : decode b_M_search 12 = .ok (.invokestatic 99, 3) := by decide +kernel
theorem d_M_search_15 : decode b_M_search 15 = .ok (.istore 4, 2) := by decide +kernel
theorem d_M_search_17 : decode b_M_search 17 = .ok (.aload_n 0, 1) := by decide +kernel
theorem d_M_search_18 : decode b_M_search 18 = .ok (.ldc2_w 103, 3) := by decide +kernel
theorem d_M_search_21 : decode b_M_search 21 = .ok (.putfield 91, 3) := by decide +kernel
theorem d_M_search_24 : decode b_M_search 24 = .ok (.aload_n 0, 1) := by decide +kernel
theorem d_M_search_25 : decode b_M_search 25 = .ok (.iload_n 3, 1) := by decide +kernel
theorem d_M_search_26 : decode b_M_search 26 = .ok (.invokevirtual 69, 3) := by decide +kernel
theorem d_M_search_29 : decode b_M_search 29 = .ok (.aload_n 0, 1) := by decide +kernel
theorem d_M_search_30 : decode b_M_search 30 = .ok (.iload_n 3, 1) := by decide +kernel
theorem d_M_search_31 : decode b_M_search 31 = .ok (.invokevirtual 69, 3) := by decide +kernel
theorem d_M_search_34 : decode b_M_search 34 = .ok (.imul, 1) := by decide +kernel
theorem d_M_search_35 : decode b_M_search 35 = .ok (.istore 5, 2) := by decide +kernel
theorem d_M_search_37 : decode b_M_search 37 = .ok (.iconst 0, 1) := by decide +kernel
theorem d_M_search_38 : decode b_M_search 38 = .ok (.istore 6, 2) := by decide +kernel
theorem d_M_search_40 : decode b_M_search 40 = .ok (.iload 6, 2) := by decide +kernel
theorem d_M_search_42 : decode b_M_search 42 = .ok (.bipush 8, 2) := by decide +kernel
theorem d_M_search_44 : decode b_M_search 44 = .ok (.iload 5, 2) := by decide +kernel
theorem d_M_search_46 : decode b_M_search 46 = .ok (.imul, 1) := by decide +kernel
theorem d_M_search_47 : decode b_M_search 47 = .ok (.if_icmp .ge 111, 3) := by decide +kernel
theorem d_M_search_50 : decode b_M_search 50 = .ok (.aload_n 0, 1) := by decide +kernel
theorem d_M_search_51 : decode b_M_search 51 = .ok (.iload_n 3, 1) := by decide +kernel
theorem d_M_search_52 : decode b_M_search 52 = .ok (.iload 6, 2) := by decide +kernel
theorem d_M_search_54 : decode b_M_search 54 = .ok (.bipush 8, 2) := by decide +kernel
theorem d_M_search_56 : decode b_M_search 56 = .ok (.idiv, 1) := by decide +kernel
theorem d_M_search_57 : decode b_M_search 57 = .ok (.iload 6, 2) := by decide +kernel
theorem d_M_search_59 : decode b_M_search 59 = .ok (.bipush 8, 2) := by decide +kernel
theorem d_M_search_61 : decode b_M_search 61 = .ok (.irem, 1) := by decide +kernel
theorem d_M_search_62 : decode b_M_search 62 = .ok (.invokevirtual 105, 3) := by decide +kernel
theorem d_M_search_65 : decode b_M_search 65 = .ok (.aload_n 0, 1) := by decide +kernel
theorem d_M_search_66 : decode b_M_search 66 = .ok (.getfield 37, 3) := by decide +kernel
theorem d_M_search_69 : decode b_M_search 69 = .ok (.iload_n 3, 1) := by decide +kernel
theorem d_M_search_70 : decode b_M_search 70 = .ok (.iload 4, 2) := by decide +kernel
theorem d_M_search_72 : decode b_M_search 72 = .ok (.invokestatic 77, 3) := by decide +kernel
theorem d_M_search_75 : decode b_M_search 75 = .ok (.istore 7, 2) := by decide +kernel
theorem d_M_search_77 : decode b_M_search 77 = .ok (.iconst 1, 1) := by decide +kernel
theorem d_M_search_78 : decode b_M_search 78 = .ok (.istore 8, 2) := by decide +kernel
theorem d_M_search_80 : decode b_M_search 80 = .ok (.iconst 0, 1) := by decide +kernel
theorem d_M_search_81 : decode b_M_search 81 = .ok (.istore 9, 2) := by decide +kernel
theorem d_M_search_83 : decode b_M_search 83 = .ok (.iload 9, 2) := by decide +kernel
theorem d_M_search_85 : decode b_M_search 85 = .ok (.iconst 4, 1) := by decide +kernel
theorem d_M_search_86 : decode b_M_search 86 = .ok (.if_icmp .ge 36, 3) := by decide +kernel
theorem d_M_search_89 : decode b_M_search 89 = .ok (.iload 8, 2) := by decide +kernel
theorem d_M_search_91 : decode b_M_search 91 = .ok (.ifCond .eq 22, 3) := by decide +kernel
theorem d_M_search_94 : decode b_M_search 94 = .ok (.aload_n 0, 1) := by decide +kernel
theorem d_M_search_95 : decode b_M_search 95 = .ok (.getfield 37, 3) := by decide +kernel
theorem d_M_search_98 : decode b_M_search 98 = .ok (.iload_n 3, 1) := by decide +kernel
theorem d_M_search_99 : decode b_M_search 99 = .ok (.iload 9, 2) := by decide +kernel
theorem d_M_search_101 : decode b_M_search 101 = .ok (.invokestatic 77, 3) := by decide +kernel
theorem d_M_search_104 : decode b_M_search 104 = .ok (.iload 7, 2) := by decide +kernel
theorem d_M_search_106 : decode b_M_search 106 = .ok (.if_icmp .gt 7, 3) := by decide +kernel
theorem d_M_search_109 : decode b_M_search 109 = .ok (.iconst 1, 1) := by decide +kernel
theorem d_M_search_110 : decode b_M_search 110 = .ok (.goto 4, 3) := by decide +kernel
theorem d_M_search_113 : decode b_M_search 113 = .ok (.iconst 0, 1) := by decide +kernel
theorem d_M_search_114 : decode b_M_search 114 = .ok (.istore 8, 2) := by decide +kernel
theorem d_M_search_116 : decode b_M_search 116 = .ok (.iinc 9 1, 3) := by decide +kernel
theorem d_M_search_119 : decode b_M_search 119 = .ok (.goto (-36), 3) := by decide +kernel
theorem d_M_search_122 : decode b_M_search 122 = .ok (.iload 8, 2) := by decide +kernel
theorem d_M_search_124 : decode b_M_search 124 = .ok (.ifCond .eq 28, 3) := by decide +kernel
theorem d_M_search_127 : decode b_M_search 127 = .ok (.aload_n 0, 1) := by decide +kernel
theorem d_M_search_128 : decode b_M_search 128 = .ok (.dup, 1) := by decide +kernel
theorem d_M_search_129 : decode b_M_search 129 = .ok (.getfield 108, 3) := by decide +kernel
theorem d_M_search_132 : decode b_M_search 132 = .ok (.iconst 1, 1) := by decide +kernel
theorem d_M_search_133 : decode b_M_search 133 = .ok (.iadd, 1) := by decide +kernel
theorem d_M_search_134 : decode b_M_search 134 = .ok (.putfield 108, 3) := by decide +kernel
theorem d_M_search_137 : decode b_M_search 137 = .ok (.aload_n 0, 1) := by decide +kernel
theorem d_M_search_138 : decode b_M_search 138 = .ok (.iload_n 3, 1) := by decide +kernel
theorem d_M_search_139 : decode b_M_search 139 = .ok (.iload 6, 2) := by decide +kernel
theorem d_M_search_141 : decode b_M_search 141 = .ok (.bipush 8, 2) := by decide +kernel
theorem d_M_search_143 : decode b_M_search 143 = .ok (.idiv, 1) := by decide +kernel
theorem d_M_search_144 : decode b_M_search 144 = .ok (.iload 6, 2) := by decide +kernel
theorem d_M_search_146 : decode b_M_search 146 = .ok (.bipush 8, 2) := by decide +kernel
theorem d_M_search_148 : decode b_M_search 148 = .ok (.irem, 1) := by decide +kernel
theorem d_M_search_149 : decode b_M_search 149 = .ok (.invokevirtual 111, 3) := by decide +kernel
theorem d_M_search_152 : decode b_M_search 152 = .ok (.iinc 6 1, 3) := by decide +kernel
theorem d_M_search_155 : decode b_M_search 155 = .ok (.goto (-115), 3) := by decide +kernel
theorem d_M_search_158 : decode b_M_search 158 = .ok (.return_, 1) := by decide +kernel
theorem d_M_tryOne_0 : decode b_M_tryOne 0 = .ok (.iload_n 1, 1) := by decide +kernel
theorem d_M_tryOne_1 : decode b_M_tryOne 1 = .ok (.iload_n 1, 1) := by decide +kernel
theorem d_M_tryOne_2 : decode b_M_tryOne 2 = .ok (.imul, 1) := by decide +kernel
theorem d_M_tryOne_3 : decode b_M_tryOne 3 = .ok (.i2l, 1) := by decide +kernel
theorem d_M_tryOne_4 : decode b_M_tryOne 4 = .ok (.lstore 4, 2) := by decide +kernel
theorem d_M_tryOne_6 : decode b_M_tryOne 6 = .ok (.lconst 0, 1) := by decide +kernel
theorem d_M_tryOne_7 : decode b_M_tryOne 7 = .ok (.lstore 6, 2) := by decide +kernel
theorem d_M_tryOne_9 : decode b_M_tryOne 9 = .ok (.lconst 0, 1) := by decide +kernel
theorem d_M_tryOne_10 : decode b_M_tryOne 10 = .ok (.lstore 8, 2) := by decide +kernel
theorem d_M_tryOne_12 : decode b_M_tryOne 12 = .ok (.lconst 0, 1) := by decide +kernel
theorem d_M_tryOne_13 : decode b_M_tryOne 13 = .ok (.lstore 10, 2) := by decide +kernel
theorem d_M_tryOne_15 : decode b_M_tryOne 15 = .ok (.lconst 0, 1) := by decide +kernel
theorem d_M_tryOne_16 : decode b_M_tryOne 16 = .ok (.lstore 12, 2) := by decide +kernel
theorem d_M_tryOne_18 : decode b_M_tryOne 18 = .ok (.iconst 0, 1) := by decide +kernel
theorem d_M_tryOne_19 : decode b_M_tryOne 19 = .ok (.istore 14, 2) := by decide +kernel
theorem d_M_tryOne_21 : decode b_M_tryOne 21 = .ok (.iload 14, 2) := by decide +kernel
theorem d_M_tryOne_23 : decode b_M_tryOne 23 = .ok (.iload_n 1, 1) := by decide +kernel
theorem d_M_tryOne_24 : decode b_M_tryOne 24 = .ok (.iload_n 1, 1) := by decide +kernel
theorem d_M_tryOne_25 : decode b_M_tryOne 25 = .ok (.imul, 1) := by decide +kernel
theorem d_M_tryOne_26 : decode b_M_tryOne 26 = .ok (.if_icmp .ge 77, 3) := by decide +kernel
theorem d_M_tryOne_29 : decode b_M_tryOne 29 = .ok (.lload 6, 2) := by decide +kernel
theorem d_M_tryOne_31 : decode b_M_tryOne 31 = .ok (.aload_n 0, 1) := by decide +kernel
theorem d_M_tryOne_32 : decode b_M_tryOne 32 = .ok (.getfield 37, 3) := by decide +kernel
theorem d_M_tryOne_35 : decode b_M_tryOne 35 = .ok (.iload 14, 2) := by decide +kernel
theorem d_M_tryOne_37 : decode b_M_tryOne 37 = .ok (.iaload, 1) := by decide +kernel
theorem d_M_tryOne_38 : decode b_M_tryOne 38 = .ok (.i2l, 1) := by decide +kernel
theorem d_M_tryOne_39 : decode b_M_tryOne 39 = .ok (.ladd, 1) := by decide +kernel
theorem d_M_tryOne_40 : decode b_M_tryOne 40 = .ok (.lstore 6, 2) := by decide +kernel
theorem d_M_tryOne_42 : decode b_M_tryOne 42 = .ok (.lload 8, 2) := by decide +kernel
theorem d_M_tryOne_44 : decode b_M_tryOne 44 = .ok (.aload_n 0, 1) := by decide +kernel
theorem d_M_tryOne_45 : decode b_M_tryOne 45 = .ok (.getfield 40, 3) := by decide +kernel
theorem d_M_tryOne_48 : decode b_M_tryOne 48 = .ok (.iload 14, 2) := by decide +kernel
theorem d_M_tryOne_50 : decode b_M_tryOne 50 = .ok (.iaload, 1) := by decide +kernel
theorem d_M_tryOne_51 : decode b_M_tryOne 51 = .ok (.i2l, 1) := by decide +kernel
theorem d_M_tryOne_52 : decode b_M_tryOne 52 = .ok (.ladd, 1) := by decide +kernel
theorem d_M_tryOne_53 : decode b_M_tryOne 53 = .ok (.lstore 8, 2) := by decide +kernel
theorem d_M_tryOne_55 : decode b_M_tryOne 55 = .ok (.lload 10, 2) := by decide +kernel
theorem d_M_tryOne_57 : decode b_M_tryOne 57 = .ok (.aload_n 0, 1) := by decide +kernel
theorem d_M_tryOne_58 : decode b_M_tryOne 58 = .ok (.getfield 37, 3) := by decide +kernel
theorem d_M_tryOne_61 : decode b_M_tryOne 61 = .ok (.iload 14, 2) := by decide +kernel
theorem d_M_tryOne_63 : decode b_M_tryOne 63 = .ok (.iaload, 1) := by decide +kernel
theorem d_M_tryOne_64 : decode b_M_tryOne 64 = .ok (.aload_n 0, 1) := by decide +kernel
theorem d_M_tryOne_65 : decode b_M_tryOne 65 = .ok (.getfield 40, 3) := by decide +kernel
theorem d_M_tryOne_68 : decode b_M_tryOne 68 = .ok (.iload 14, 2) := by decide +kernel
theorem d_M_tryOne_70 : decode b_M_tryOne 70 = .ok (.iaload, 1) := by decide +kernel
theorem d_M_tryOne_71 : decode b_M_tryOne 71 = .ok (.imul, 1) := by decide +kernel
theorem d_M_tryOne_72 : decode b_M_tryOne 72 = .ok (.i2l, 1) := by decide +kernel
theorem d_M_tryOne_73 : decode b_M_tryOne 73 = .ok (.ladd, 1) := by decide +kernel
theorem d_M_tryOne_74 : decode b_M_tryOne 74 = .ok (.lstore 10, 2) := by decide +kernel
theorem d_M_tryOne_76 : decode b_M_tryOne 76 = .ok (.lload 12, 2) := by decide +kernel
theorem d_M_tryOne_78 : decode b_M_tryOne 78 = .ok (.aload_n 0, 1) := by decide +kernel
theorem d_M_tryOne_79 : decode b_M_tryOne 79 = .ok (.getfield 37, 3) := by decide +kernel
theorem d_M_tryOne_82 : decode b_M_tryOne 82 = .ok (.iload 14, 2) := by decide +kernel
theorem d_M_tryOne_84 : decode b_M_tryOne 84 = .ok (.iaload, 1) := by decide +kernel
theorem d_M_tryOne_85 : decode b_M_tryOne 85 = .ok (.aload_n 0, 1) := by decide +kernel
theorem d_M_tryOne_86 : decode b_M_tryOne 86 = .ok (.getfield 37, 3) := by decide +kernel
theorem d_M_tryOne_89 : decode b_M_tryOne 89 = .ok (.iload 14, 2) := by decide +kernel
theorem d_M_tryOne_91 : decode b_M_tryOne 91 = .ok (.iaload, 1) := by decide +kernel
theorem d_M_tryOne_92 : decode b_M_tryOne 92 = .ok (.imul, 1) := by decide +kernel
theorem d_M_tryOne_93 : decode b_M_tryOne 93 = .ok (.i2l, 1) := by decide +kernel
theorem d_M_tryOne_94 : decode b_M_tryOne 94 = .ok (.ladd, 1) := by decide +kernel
theorem d_M_tryOne_95 : decode b_M_tryOne 95 = .ok (.lstore 12, 2) := by decide +kernel
theorem d_M_tryOne_97 : decode b_M_tryOne 97 = .ok (.iinc 14 1, 3) := by decide +kernel
theorem d_M_tryOne_100 : decode b_M_tryOne 100 = .ok (.goto (-79), 3) := by decide +kernel
theorem d_M_tryOne_103 : decode b_M_tryOne 103 = .ok (.lload 4, 2) := by decide +kernel
theorem d_M_tryOne_105 : decode b_M_tryOne 105 = .ok (.lload 10, 2) := by decide +kernel
theorem d_M_tryOne_107 : decode b_M_tryOne 107 = .ok (.lmul, 1) := by decide +kernel
theorem d_M_tryOne_108 : decode b_M_tryOne 108 = .ok (.lload 6, 2) := by decide +kernel
theorem d_M_tryOne_110 : decode b_M_tryOne 110 = .ok (.lload 8, 2) := by decide +kernel
theorem d_M_tryOne_112 : decode b_M_tryOne 112 = .ok (.lmul, 1) := by decide +kernel
theorem d_M_tryOne_113 : decode b_M_tryOne 113 = .ok (.lsub, 1) := by decide +kernel
theorem d_M_tryOne_114 : decode b_M_tryOne 114 = .ok (.lstore 14, 2) := by decide +kernel
theorem d_M_tryOne_116 : decode b_M_tryOne 116 = .ok (.lload 4, 2) := by decide +kernel
theorem d_M_tryOne_118 : decode b_M_tryOne 118 = .ok (.lload 12, 2) := by decide +kernel
theorem d_M_tryOne_120 : decode b_M_tryOne 120 = .ok (.lmul, 1) := by decide +kernel
theorem d_M_tryOne_121 : decode b_M_tryOne 121 = .ok (.lload 6, 2) := by decide +kernel
theorem d_M_tryOne_123 : decode b_M_tryOne 123 = .ok (.lload 6, 2) := by decide +kernel
theorem d_M_tryOne_125 : decode b_M_tryOne 125 = .ok (.lmul, 1) := by decide +kernel
theorem d_M_tryOne_126 : decode b_M_tryOne 126 = .ok (.lsub, 1) := by decide +kernel
theorem d_M_tryOne_127 : decode b_M_tryOne 127 = .ok (.lstore 16, 2) := by decide +kernel
theorem d_M_tryOne_129 : decode b_M_tryOne 129 = .ok (.lload 16, 2) := by decide +kernel
theorem d_M_tryOne_131 : decode b_M_tryOne 131 = .ok (.lconst 0, 1) := by decide +kernel
theorem d_M_tryOne_132 : decode b_M_tryOne 132 = .ok (.lcmp, 1) := by decide +kernel
theorem d_M_tryOne_133 : decode b_M_tryOne 133 = .ok (.ifCond .ne 7, 3) := by decide +kernel
theorem d_M_tryOne_136 : decode b_M_tryOne 136 = .ok (.iconst 0, 1) := by decide +kernel
theorem d_M_tryOne_137 : decode b_M_tryOne 137 = .ok (.goto 21, 3) := by decide +kernel
theorem d_M_tryOne_140 : decode b_M_tryOne 140 = .ok (.ldc2_w 81, 3) := by decide +kernel
theorem d_M_tryOne_143 : decode b_M_tryOne 143 = .ok (.lload 14, 2) := by decide +kernel
theorem d_M_tryOne_145 : decode b_M_tryOne 145 = .ok (.lmul, 1) := by decide +kernel
theorem d_M_tryOne_146 : decode b_M_tryOne 146 = .ok (.lload 16, 2) := by decide +kernel
theorem d_M_tryOne_148 : decode b_M_tryOne 148 = .ok (.invokestatic 83, 3) := by decide +kernel
theorem d_M_tryOne_151 : decode b_M_tryOne 151 = .ok (.bipush (-7), 2) := by decide +kernel
theorem d_M_tryOne_153 : decode b_M_tryOne 153 = .ok (.bipush 7, 2) := by decide +kernel
theorem d_M_tryOne_155 : decode b_M_tryOne 155 = .ok (.invokestatic 65, 3) := by decide +kernel
theorem d_M_tryOne_158 : decode b_M_tryOne 158 = .ok (.istore 18, 2) := by decide +kernel
theorem d_M_tryOne_160 : decode b_M_tryOne 160 = .ok (.lload 8, 2) := by decide +kernel
theorem d_M_tryOne_162 : decode b_M_tryOne 162 = .ok (.lstore 19, 2) := by decide +kernel
theorem d_M_tryOne_164 : decode b_M_tryOne 164 = .ok (.iconst 0, 1) := by decide +kernel
theorem d_M_tryOne_165 : decode b_M_tryOne 165 = .ok (.istore 21, 2) := by decide +kernel
theorem d_M_tryOne_167 : decode b_M_tryOne 167 = .ok (.iload 21, 2) := by decide +kernel
theorem d_M_tryOne_169 : decode b_M_tryOne 169 = .ok (.iload_n 1, 1) := by decide +kernel
theorem d_M_tryOne_170 : decode b_M_tryOne 170 = .ok (.iload_n 1, 1) := by decide +kernel
theorem d_M_tryOne_171 : decode b_M_tryOne 171 = .ok (.imul, 1) := by decide +kernel
theorem d_M_tryOne_172 : decode b_M_tryOne 172 = .ok (.if_icmp .ge 27, 3) := by decide +kernel
