theorem d_M_turned_70 : decode b_M_turned 70 = .ok (.iload_n 3, 1) := by decide +kernel
theorem d_M_turned_71 : decode b_M_turned 71 = .ok (.iload 8, 2) := by decide +kernel
theorem d_M_turned_73 : decode b_M_turned 73 = .ok (.iadd, 1) := by decide +kernel
theorem d_M_turned_74 : decode b_M_turned 74 = .ok (.iload_n 1, 1) := by decide +kernel
theorem d_M_turned_75 : decode b_M_turned 75 = .ok (.imul, 1) := by decide +kernel
theorem d_M_turned_76 : decode b_M_turned 76 = .ok (.iload_n 2, 1) := by decide +kernel
theorem d_M_turned_77 : decode b_M_turned 77 = .ok (.iadd, 1) := by decide +kernel
theorem d_M_turned_78 : decode b_M_turned 78 = .ok (.iload 7, 2) := by decide +kernel
theorem d_M_turned_80 : decode b_M_turned 80 = .ok (.iadd, 1) := by decide +kernel
theorem d_M_turned_81 : decode b_M_turned 81 = .ok (.iaload, 1) := by decide +kernel
theorem d_M_turned_82 : decode b_M_turned 82 = .ok (.ireturn, 1) := by decide +kernel
theorem d_M_decode_0 : decode b_M_decode 0 = .ok (.aload_n 0, 1) := by decide +kernel
theorem d_M_decode_1 : decode b_M_decode 1 = .ok (.iload_n 1, 1) := by decide +kernel
theorem d_M_decode_2 : decode b_M_decode 2 = .ok (.i2l, 1) := by decide +kernel
theorem d_M_decode_3 : decode b_M_decode 3 = .ok (.lconst 1, 1) := by decide +kernel
theorem d_M_decode_4 : decode b_M_decode 4 = .ok (.ldc2_w 183, 3) := by decide +kernel
theorem d_M_decode_7 : decode b_M_decode 7 = .ok (.invokestatic 55, 3) := by decide +kernel
theorem d_M_decode_10 : decode b_M_decode 10 = .ok (.ifCond .eq 13, 3) := by decide +kernel
theorem d_M_decode_13 : decode b_M_decode 13 = .ok (.iload_n 2, 1) := by decide +kernel
theorem d_M_decode_14 : decode b_M_decode 14 = .ok (.i2l, 1) := by decide +kernel
theorem d_M_decode_15 : decode b_M_decode 15 = .ok (.lconst 0, 1) := by decide +kernel
theorem d_M_decode_16 : decode b_M_decode 16 = .ok (.lconst 1, 1) := by decide +kernel
theorem d_M_decode_17 : decode b_M_decode 17 = .ok (.invokestatic 55, 3) := by decide +kernel
theorem d_M_decode_20 : decode b_M_decode 20 = .ok (.ifCond .ne 7, 3) := by decide +kernel
theorem d_M_decode_23 : decode b_M_decode 23 = .ok (.iconst 1, 1) := by decide +kernel
theorem d_M_decode_24 : decode b_M_decode 24 = .ok (.goto 15, 3) := by decide +kernel
theorem d_M_decode_27 : decode b_M_decode 27 = .ok (.aload_n 0, 1) := by decide +kernel
theorem d_M_decode_28 : decode b_M_decode 28 = .ok (.getfield 123, 3) := by decide +kernel
theorem d_M_decode_31 : decode b_M_decode 31 = .ok (.ifCond .ne 7, 3) := by decide +kernel
theorem d_M_decode_34 : decode b_M_decode 34 = .ok (.iconst 2, 1) := by decide +kernel
theorem d_M_decode_35 : decode b_M_decode 35 = .ok (.goto 4, 3) := by decide +kernel
theorem d_M_decode_38 : decode b_M_decode 38 = .ok (.iconst 0, 1) := by decide +kernel
theorem d_M_decode_39 : decode b_M_decode 39 = .ok (.putfield 50, 3) := by decide +kernel
theorem d_M_decode_42 : decode b_M_decode 42 = .ok (.aload_n 0, 1) := by decide +kernel
theorem d_M_decode_43 : decode b_M_decode 43 = .ok (.getfield 50, 3) := by decide +kernel
theorem d_M_decode_46 : decode b_M_decode 46 = .ok (.ifCond .le 5, 3) := by decide +kernel
theorem d_M_decode_49 : decode b_M_decode 49 = .ok (.iconst 0, 1) := by decide +kernel
theorem d_M_decode_50 : decode b_M_decode 50 = .ok (.ireturn, 1) := by decide +kernel
theorem d_M_decode_51 : decode b_M_decode 51 = .ok (.aload_n 0, 1) := by decide +kernel
theorem d_M_decode_52 : decode b_M_decode 52 = .ok (.aload_n 0, 1) := by decide +kernel
theorem d_M_decode_53 : decode b_M_decode 53 = .ok (.getfield 46, 3) := by decide +kernel
theorem d_M_decode_56 : decode b_M_decode 56 = .ok (.iload_n 2, 1) := by decide +kernel
theorem d_M_decode_57 : decode b_M_decode 57 = .ok (.iconst 1, 1) := by decide +kernel
theorem d_M_decode_58 : decode b_M_decode 58 = .ok (.iadd, 1) := by decide +kernel
theorem d_M_decode_59 : decode b_M_decode 59 = .ok (.imul, 1) := by decide +kernel
theorem d_M_decode_60 : decode b_M_decode 60 = .ok (.putfield 185, 3) := by decide +kernel
theorem d_M_decode_63 : decode b_M_decode 63 = .ok (.iconst 0, 1) := by decide +kernel
theorem d_M_decode_64 : decode b_M_decode 64 = .ok (.istore_n 3, 1) := by decide +kernel
theorem d_M_decode_65 : decode b_M_decode 65 = .ok (.iload_n 3, 1) := by decide +kernel
theorem d_M_decode_66 : decode b_M_decode 66 = .ok (.aload_n 0, 1) := by decide +kernel
theorem d_M_decode_67 : decode b_M_decode 67 = .ok (.getfield 185, 3) := by decide +kernel
theorem d_M_decode_70 : decode b_M_decode 70 = .ok (.aload_n 0, 1) := by decide +kernel
theorem d_M_decode_71 : decode b_M_decode 71 = .ok (.getfield 185, 3) := by decide +kernel
theorem d_M_decode_74 : decode b_M_decode 74 = .ok (.imul, 1) := by decide +kernel
theorem d_M_decode_75 : decode b_M_decode 75 = .ok (.if_icmp .ge 18, 3) := by decide +kernel
theorem d_M_decode_78 : decode b_M_decode 78 = .ok (.aload_n 0, 1) := by decide +kernel
theorem d_M_decode_79 : decode b_M_decode 79 = .ok (.getfield 28, 3) := by decide +kernel
theorem d_M_decode_82 : decode b_M_decode 82 = .ok (.iload_n 3, 1) := by decide +kernel
theorem d_M_decode_83 : decode b_M_decode 83 = .ok (.sipush 128, 3) := by decide +kernel
theorem d_M_decode_86 : decode b_M_decode 86 = .ok (.iastore, 1) := by decide +kernel
theorem d_M_decode_87 : decode b_M_decode 87 = .ok (.iinc 3 1, 3) := by decide +kernel
theorem d_M_decode_90 : decode b_M_decode 90 = .ok (.goto (-25), 3) := by decide +kernel
theorem d_M_decode_93 : decode b_M_decode 93 = .ok (.iconst 0, 1) := by decide +kernel
theorem d_M_decode_94 : decode b_M_decode 94 = .ok (.istore_n 3, 1) := by decide +kernel
theorem d_M_decode_95 : decode b_M_decode 95 = .ok (.iconst 0, 1) := by decide +kernel
theorem d_M_decode_96 : decode b_M_decode 96 = .ok (.istore 4, 2) := by decide +kernel
theorem d_M_decode_98 : decode b_M_decode 98 = .ok (.iload 4, 2) := by decide +kernel
theorem d_M_decode_100 : decode b_M_decode 100 = .ok (.iload_n 1, 1) := by decide +kernel
theorem d_M_decode_101 : decode b_M_decode 101 = .ok (.if_icmp .ge 105, 3) := by decide +kernel
theorem d_M_decode_104 : decode b_M_decode 104 = .ok (.aload_n 0, 1) := by decide +kernel
theorem d_M_decode_105 : decode b_M_decode 105 = .ok (.getfield 28, 3) := by decide +kernel
theorem d_M_decode_108 : decode b_M_decode 108 = .ok (.aload_n 0, 1) := by decide +kernel
theorem d_M_decode_109 : decode b_M_decode 109 = .ok (.getfield 185, 3) := by decide +kernel
theorem d_M_decode_112 : decode b_M_decode 112 = .ok (.aload_n 0, 1) := by decide +kernel
theorem d_M_decode_113 : decode b_M_decode 113 = .ok (.getfield 34, 3) := by decide +kernel
theorem d_M_decode_116 : decode b_M_decode 116 = .ok (.invokestatic 133, 3) := by decide +kernel
theorem d_M_decode_119 : decode b_M_decode 119 = .ok (.iconst 0, 1) := by decide +kernel
theorem d_M_decode_120 : decode b_M_decode 120 = .ok (.istore 5, 2) := by decide +kernel
theorem d_M_decode_122 : decode b_M_decode 122 = .ok (.iload 5, 2) := by decide +kernel
theorem d_M_decode_124 : decode b_M_decode 124 = .ok (.aload_n 0, 1) := by decide +kernel
theorem d_M_decode_125 : decode b_M_decode 125 = .ok (.getfield 185, 3) := by decide +kernel
theorem d_M_decode_128 : decode b_M_decode 128 = .ok (.aload_n 0, 1) := by decide +kernel
theorem d_M_decode_129 : decode b_M_decode 129 = .ok (.getfield 185, 3) := by decide +kernel
theorem d_M_decode_132 : decode b_M_decode 132 = .ok (.imul, 1) := by decide +kernel
theorem d_M_decode_133 : decode b_M_decode 133 = .ok (.if_icmp .ge 23, 3) := by decide +kernel
theorem d_M_decode_136 : decode b_M_decode 136 = .ok (.aload_n 0, 1) := by decide +kernel
theorem d_M_decode_137 : decode b_M_decode 137 = .ok (.getfield 31, 3) := by decide +kernel
theorem d_M_decode_140 : decode b_M_decode 140 = .ok (.iload 5, 2) := by decide +kernel
theorem d_M_decode_142 : decode b_M_decode 142 = .ok (.aload_n 0, 1) := by decide +kernel
theorem d_M_decode_143 : decode b_M_decode 143 = .ok (.getfield 28, 3) := by decide +kernel
theorem d_M_decode_146 : decode b_M_decode 146 = .ok (.iload 5, 2) := by decide +kernel
theorem d_M_decode_148 : decode b_M_decode 148 = .ok (.iaload, 1) := by decide +kernel
theorem d_M_decode_149 : decode b_M_decode 149 = .ok (.iastore, 1) := by decide +kernel
theorem d_M_decode_150 : decode b_M_decode 150 = .ok (.iinc 5 1, 3) := by decide +kernel
theorem d_M_decode_153 : decode b_M_decode 153 = .ok (.goto (-31), 3) := by decide +kernel
theorem d_M_decode_156 : decode b_M_decode 156 = .ok (.iconst 0, 1) := by decide +kernel
theorem d_M_decode_157 : decode b_M_decode 157 = .ok (.istore_n 3, 1) := by decide +kernel
theorem d_M_decode_158 : decode b_M_decode 158 = .ok (.iconst 0, 1) := by decide +kernel
theorem d_M_decode_159 : decode b_M_decode 159 = .ok (.istore 5, 2) := by decide +kernel
theorem d_M_decode_161 : decode b_M_decode 161 = .ok (.iload 5, 2) := by decide +kernel
theorem d_M_decode_163 : decode b_M_decode 163 = .ok (.aload_n 0, 1) := by decide +kernel
theorem d_M_decode_164 : decode b_M_decode 164 = .ok (.getfield 123, 3) := by decide +kernel
theorem d_M_decode_167 : decode b_M_decode 167 = .ok (.if_icmp .ge 33, 3) := by decide +kernel
theorem d_M_decode_170 : decode b_M_decode 170 = .ok (.aload_n 0, 1) := by decide +kernel
theorem d_M_decode_171 : decode b_M_decode 171 = .ok (.iload 5, 2) := by decide +kernel
theorem d_M_decode_173 : decode b_M_decode 173 = .ok (.iload_n 2, 1) := by decide +kernel
theorem d_M_decode_174 : decode b_M_decode 174 = .ok (.iconst 1, 1) := by decide +kernel
theorem d_M_decode_175 : decode b_M_decode 175 = .ok (.iadd, 1) := by decide +kernel
theorem d_M_decode_176 : decode b_M_decode 176 = .ok (.invokevirtual 188, 3) := by decide +kernel
theorem d_M_decode_179 : decode b_M_decode 179 = .ok (.istore 6, 2) := by decide +kernel
theorem d_M_decode_181 : decode b_M_decode 181 = .ok (.iload 6, 2) := by decide +kernel
theorem d_M_decode_183 : decode b_M_decode 183 = .ok (.iload_n 3, 1) := by decide +kernel
theorem d_M_decode_184 : decode b_M_decode 184 = .ok (.if_icmp .le 8, 3) := by decide +kernel
theorem d_M_decode_187 : decode b_M_decode 187 = .ok (.iload 6, 2) := by decide +kernel
theorem d_M_decode_189 : decode b_M_decode 189 = .ok (.goto 4, 3) := by decide +kernel
theorem d_M_decode_192 : decode b_M_decode 192 = .ok (.iload_n 3, 1) := by decide +kernel
theorem d_M_decode_193 : decode b_M_decode 193 = .ok (.istore_n 3, 1) := by decide +kernel
theorem d_M_decode_194 : decode b_M_decode 194 = .ok (.iinc 5 1, 3) := by decide +kernel
theorem d_M_decode_197 : decode b_M_decode 197 = .ok (.goto (-36), 3) := by decide +kernel
theorem d_M_decode_200 : decode b_M_decode 200 = .ok (.iinc 4 1, 3) := by decide +kernel
theorem d_M_decode_203 : decode b_M_decode 203 = .ok (.goto (-105), 3) := by decide +kernel
theorem d_M_decode_206 : decode b_M_decode 206 = .ok (.iload_n 3, 1) := by decide +kernel
theorem d_M_decode_207 : decode b_M_decode 207 = .ok (.ireturn, 1) := by decide +kernel
theorem d_M_decodeBlock_0 : decode b_M_decodeBlock 0 = .ok (.aload_n 0, 1) := by decide +kernel
theorem d_M_decodeBlock_1 : decode b_M_decodeBlock 1 = .ok (.getfield 16, 3) := by decide +kernel
theorem d_M_decodeBlock_4 : decode b_M_decodeBlock 4 = .ok (.bipush 8, 2) := by decide +kernel
theorem d_M_decodeBlock_6 : decode b_M_decodeBlock 6 = .ok (.iload_n 1, 1) := by decide +kernel
theorem d_M_decodeBlock_7 : decode b_M_decodeBlock 7 = .ok (.imul, 1) := by decide +kernel
theorem d_M_decodeBlock_8 : decode b_M_decodeBlock 8 = .ok (.iconst 2, 1) := by decide +kernel
theorem d_M_decodeBlock_9 : decode b_M_decodeBlock 9 = .ok (.iadd, 1) := by decide +kernel
theorem d_M_decodeBlock_10 : decode b_M_decodeBlock 10 = .ok (.iaload, 1) := by decide +kernel
theorem d_M_decodeBlock_11 : decode b_M_decodeBlock 11 = .ok (.istore_n 3, 1) := by decide +kernel
theorem d_M_decodeBlock_12 : decode b_M_decodeBlock 12 = .ok (.iload_n 3, 1) := by decide +kernel
theorem d_M_decodeBlock_13 : decode b_M_decodeBlock 13 = .ok (.iload_n 2, 1) := by decide +kernel
theorem d_M_decodeBlock_14 : decode b_M_decodeBlock 14 = .ok (.imul, 1) := by decide +kernel
theorem d_M_decodeBlock_15 : decode b_M_decodeBlock 15 = .ok (.istore 4, 2) := by decide +kernel
theorem d_M_decodeBlock_17 : decode b_M_decodeBlock 17 = .ok (.aload_n 0, 1) := by decide +kernel
theorem d_M_decodeBlock_18 : decode b_M_decodeBlock 18 = .ok (.getfield 46, 3) := by decide +kernel
theorem d_M_decodeBlock_21 : decode b_M_decodeBlock 21 = .ok (.iload_n 2, 1) := by decide +kernel
theorem d_M_decodeBlock_22 : decode b_M_decodeBlock 22 = .ok (.imul, 1) := by decide +kernel
theorem d_M_decodeBlock_23 : decode b_M_decodeBlock 23 = .ok (.istore 5, 2) := by decide +kernel
theorem d_M_decodeBlock_25 : decode b_M_decodeBlock 25 = .ok (.aload_n 0, 1) := by decide +kernel
theorem d_M_decodeBlock_26 : decode b_M_decodeBlock 26 = .ok (.iload_n 3, 1) := by decide +kernel
theorem d_M_decodeBlock_27 : decode b_M_decodeBlock 27 = .ok (.invokevirtual 69, 3) := by decide +kernel
theorem d_M_decodeBlock_30 : decode b_M_decodeBlock 30 = .ok (.istore 6, 2) := by decide +kernel
theorem d_M_decodeBlock_32 : decode b_M_decodeBlock 32 = .ok (.aload_n 0, 1) := by decide +kernel
theorem d_M_decodeBlock_33 : decode b_M_decodeBlock 33 = .ok (.getfield 16, 3) := by decide +kernel
theorem d_M_decodeBlock_36 : decode b_M_decodeBlock 36 = .ok (.bipush 8, 2) := by decide +kernel
theorem d_M_decodeBlock_38 : decode b_M_decodeBlock 38 = .ok (.iload_n 1, 1) := by decide +kernel
theorem d_M_decodeBlock_39 : decode b_M_decodeBlock 39 = .ok (.imul, 1) := by decide +kernel
theorem d_M_decodeBlock_40 : decode b_M_decodeBlock 40 = .ok (.iconst 3, 1) := by decide +kernel
theorem d_M_decodeBlock_41 : decode b_M_decodeBlock 41 = .ok (.iadd, 1) := by decide +kernel
theorem d_M_decodeBlock_42 : decode b_M_decodeBlock 42 = .ok (.iaload, 1) := by decide +kernel
theorem d_M_decodeBlock_43 : decode b_M_decodeBlock 43 = .ok (.istore 7, 2) := by decide +kernel
theorem d_M_decodeBlock_45 : decode b_M_decodeBlock 45 = .ok (.iload 7, 2) := by decide +kernel
theorem d_M_decodeBlock_47 : decode b_M_decodeBlock 47 = .ok (.iload 6, 2) := by decide +kernel
theorem d_M_decodeBlock_49 : decode b_M_decodeBlock 49 = .ok (.irem, 1) := by decide +kernel
theorem d_M_decodeBlock_50 : decode b_M_decodeBlock 50 = .ok (.iload_n 3, 1) := by decide +kernel
theorem d_M_decodeBlock_51 : decode b_M_decodeBlock 51 = .ok (.imul, 1) := by decide +kernel
theorem d_M_decodeBlock_52 : decode b_M_decodeBlock 52 = .ok (.iload_n 2, 1) := by decide +kernel
theorem d_M_decodeBlock_53 : decode b_M_decodeBlock 53 = .ok (.imul, 1) := by decide +kernel
theorem d_M_decodeBlock_54 : decode b_M_decodeBlock 54 = .ok (.iconst 2, 1) := by decide +kernel
theorem d_M_decodeBlock_55 : decode b_M_decodeBlock 55 = .ok (.idiv, 1) := by decide +kernel
theorem d_M_decodeBlock_56 : decode b_M_decodeBlock 56 = .ok (.istore 8, 2) := by decide +kernel
theorem d_M_decodeBlock_58 : decode b_M_decodeBlock 58 = .ok (.iload 7, 2) := by decide +kernel
theorem d_M_decodeBlock_60 : decode b_M_decodeBlock 60 = .ok (.iload 6, 2) := by decide +kernel
theorem d_M_decodeBlock_62 : decode b_M_decodeBlock 62 = .ok (.idiv, 1) := by decide +kernel
theorem d_M_decodeBlock_63 : decode b_M_decodeBlock 63 = .ok (.iload_n 3, 1) := by decide +kernel
theorem d_M_decodeBlock_64 : decode b_M_decodeBlock 64 = .ok (.imul, 1) := by decide +kernel
theorem d_M_decodeBlock_65 : decode b_M_decodeBlock 65 = .ok (.iload_n 2, 1) := by decide +kernel
theorem d_M_decodeBlock_66 : decode b_M_decodeBlock 66 = .ok (.imul, 1) := by decide +kernel
theorem d_M_decodeBlock_67 : decode b_M_decodeBlock 67 = .ok (.iconst 2, 1) := by decide +kernel
theorem d_M_decodeBlock_68 : decode b_M_decodeBlock 68 = .ok (.idiv, 1) := by decide +kernel
theorem d_M_decodeBlock_69 : decode b_M_decodeBlock 69 = .ok (.istore 9, 2) := by decide +kernel
theorem d_M_decodeBlock_71 : decode b_M_decodeBlock 71 = .ok (.iconst 0, 1) := by decide +kernel
theorem d_M_decodeBlock_72 : decode b_M_decodeBlock 72 = .ok (.istore 10, 2) := by decide +kernel
theorem d_M_decodeBlock_74 : decode b_M_decodeBlock 74 = .ok (.iconst 0, 1) := by decide +kernel
theorem d_M_decodeBlock_75 : decode b_M_decodeBlock 75 = .ok (.istore 11, 2) := by decide +kernel
theorem d_M_decodeBlock_77 : decode b_M_decodeBlock 77 = .ok (.iload 11, 2) := by decide +kernel
theorem d_M_decodeBlock_79 : decode b_M_decodeBlock 79 = .ok (.iload 4, 2) := by decide +kernel
theorem d_M_decodeBlock_81 : decode b_M_decodeBlock 81 = .ok (.iload 4, 2) := by decide +kernel
theorem d_M_decodeBlock_83 : decode b_M_decodeBlock 83 = .ok (.imul, 1) := by decide +kernel
theorem d_M_decodeBlock_84 : decode b_M_decodeBlock 84 = .ok (.if_icmp .ge 175, 3) := by decide +kernel
theorem d_M_decodeBlock_87 : decode b_M_decodeBlock 87 = .ok (.aload_n 0, 1) := by decide +kernel
theorem d_M_decodeBlock_88 : decode b_M_decodeBlock 88 = .ok (.getfield 16, 3) := by decide +kernel
theorem d_M_decodeBlock_91 : decode b_M_decodeBlock 91 = .ok (.bipush 8, 2) := by decide +kernel
theorem d_M_decodeBlock_93 : decode b_M_decodeBlock 93 = .ok (.iload_n 1, 1) := by decide +kernel
theorem d_M_decodeBlock_94 : decode b_M_decodeBlock 94 = .ok (.imul, 1) := by decide +kernel
theorem d_M_decodeBlock_95 : decode b_M_decodeBlock 95 = .ok (.iconst 5, 1) := by decide +kernel
theorem d_M_decodeBlock_96 : decode b_M_decodeBlock 96 = .ok (.iadd, 1) := by decide +kernel
theorem d_M_decodeBlock_97 : decode b_M_decodeBlock 97 = .ok (.iaload, 1) := by decide +kernel
theorem d_M_decodeBlock_98 : decode b_M_decodeBlock 98 = .ok (.aload_n 0, 1) := by decide +kernel
theorem d_M_decodeBlock_99 : decode b_M_decodeBlock 99 = .ok (.getfield 34, 3) := by decide +kernel
theorem d_M_decodeBlock_102 : decode b_M_decodeBlock 102 = .ok (.iload 5, 2) := by decide +kernel
theorem d_M_decodeBlock_104 : decode b_M_decodeBlock 104 = .ok (.iconst 2, 1) := by decide +kernel
theorem d_M_decodeBlock_105 : decode b_M_decodeBlock 105 = .ok (.idiv, 1) := by decide +kernel
theorem d_M_decodeBlock_106 : decode b_M_decodeBlock 106 = .ok (.iload 8, 2) := by decide +kernel
theorem d_M_decodeBlock_108 : decode b_M_decodeBlock 108 = .ok (.iload 9, 2) := by decide +kernel
theorem d_M_decodeBlock_110 : decode b_M_decodeBlock 110 = .ok (.iload 4, 2) := by decide +kernel
theorem d_M_decodeBlock_112 : decode b_M_decodeBlock 112 = .ok (.aload_n 0, 1) := by decide +kernel
theorem d_M_decodeBlock_113 : decode b_M_decodeBlock 113 = .ok (.getfield 16, 3) := by decide +kernel
theorem d_M_decodeBlock_116 : decode b_M_decodeBlock 116 = .ok (.bipush 8, 2) := by decide +kernel
theorem d_M_decodeBlock_118 : decode b_M_decodeBlock 118 = .ok (.iload_n 1, 1) := by decide +kernel
theorem d_M_decodeBlock_119 : decode b_M_decodeBlock 119 = .ok (.imul, 1) := by decide +kernel
theorem d_M_decodeBlock_120 : decode b_M_decodeBlock 120 = .ok (.iconst 4, 1) := by decide +kernel
theorem d_M_decodeBlock_121 : decode b_M_decodeBlock 121 = .ok (.iadd, 1) := by decide +kernel
theorem d_M_decodeBlock_122 : decode b_M_decodeBlock 122 = .ok (.iaload, 1) := by decide +kernel
theorem d_M_decodeBlock_123 : decode b_M_decodeBlock 123 = .ok (.iload 11, 2) := by decide +kernel
theorem d_M_decodeBlock_125 : decode b_M_decodeBlock 125 = .ok (.invokestatic 73, 3) := by decide +kernel
theorem d_M_decodeBlock_128 : decode b_M_decodeBlock 128 = .ok (.invokestatic 87, 3) := by decide +kernel
theorem d_M_decodeBlock_131 : decode b_M_decodeBlock 131 = .ok (.aload_n 0, 1) := by decide +kernel
theorem d_M_decodeBlock_132 : decode b_M_decodeBlock 132 = .ok (.getfield 16, 3) := by decide +kernel
theorem d_M_decodeBlock_135 : decode b_M_decodeBlock 135 = .ok (.bipush 8, 2) := by decide +kernel
theorem d_M_decodeBlock_137 : decode b_M_decodeBlock 137 = .ok (.iload_n 1, 1) := by decide +kernel
theorem d_M_decodeBlock_138 : decode b_M_decodeBlock 138 = .ok (.imul, 1) := by decide +kernel
theorem d_M_decodeBlock_139 : decode b_M_decodeBlock 139 = .ok (.bipush 6, 2) := by decide +kernel
theorem d_M_decodeBlock_141 : decode b_M_decodeBlock 141 = .ok (.iadd, 1) := by decide +kernel
theorem d_M_decodeBlock_142 : decode b_M_decodeBlock 142 = .ok (.iaload, 1) := by decide +kernel
theorem d_M_decodeBlock_143 : decode b_M_decodeBlock 143 = .ok (.iadd, 1) := by decide +kernel
theorem d_M_decodeBlock_144 : decode b_M_decodeBlock 144 = .ok (.istore 12, 2) := by decide +kernel
theorem d_M_decodeBlock_146 : decode b_M_decodeBlock 146 = .ok (.aload_n 0, 1) := by decide +kernel
theorem d_M_decodeBlock_147 : decode b_M_decodeBlock 147 = .ok (.getfield 16, 3) := by decide +kernel
theorem d_M_decodeBlock_150 : decode b_M_decodeBlock 150 = .ok (.bipush 8, 2) := by decide +kernel
theorem d_M_decodeBlock_152 : decode b_M_decodeBlock 152 = .ok (.iload_n 1, 1) := by decide +kernel
theorem d_M_decodeBlock_153 : decode b_M_decodeBlock 153 = .ok (.imul, 1) := by decide +kernel
theorem d_M_decodeBlock_154 : decode b_M_decodeBlock 154 = .ok (.iconst 1, 1) := by decide +kernel
theorem d_M_decodeBlock_155 : decode b_M_decodeBlock 155 = .ok (.iadd, 1) := by decide +kernel
theorem d_M_decodeBlock_156 : decode b_M_decodeBlock 156 = .ok (.iaload, 1) := by decide +kernel
theorem d_M_decodeBlock_157 : decode b_M_decodeBlock 157 = .ok (.iload_n 2, 1) := by decide +kernel
theorem d_M_decodeBlock_158 : decode b_M_decodeBlock 158 = .ok (.imul, 1) := by decide +kernel
theorem d_M_decodeBlock_159 : decode b_M_decodeBlock 159 = .ok (.iload 11, 2) := by decide +kernel
theorem d_M_decodeBlock_161 : decode b_M_decodeBlock 161 = .ok (.iload 4, 2) := by decide +kernel
theorem d_M_decodeBlock_163 : decode b_M_decodeBlock 163 = .ok (.idiv, 1) := by decide +kernel
theorem d_M_decodeBlock_164 : decode b_M_decodeBlock 164 = .ok (.iadd, 1) := by decide +kernel
theorem d_M_decodeBlock_165 : decode b_M_decodeBlock 165 = .ok (.iload 5, 2) := by decide +kernel
theorem d_M_decodeBlock_167 : decode b_M_decodeBlock 167 = .ok (.imul, 1) := by decide +kernel
theorem d_M_decodeBlock_168 : decode b_M_decodeBlock 168 = .ok (.aload_n 0, 1) := by decide +kernel
theorem d_M_decodeBlock_169 : decode b_M_decodeBlock 169 = .ok (.getfield 16, 3) := by decide +kernel
theorem d_M_decodeBlock_172 : decode b_M_decodeBlock 172 = .ok (.bipush 8, 2) := by decide +kernel
theorem d_M_decodeBlock_174 : decode b_M_decodeBlock 174 = .ok (.iload_n 1, 1) := by decide +kernel
theorem d_M_decodeBlock_175 : decode b_M_decodeBlock 175 = .ok (.imul, 1) := by decide +kernel
theorem d_M_decodeBlock_176 : decode b_M_decodeBlock 176 = .ok (.iaload, 1) := by decide +kernel
theorem d_M_decodeBlock_177 : decode b_M_decodeBlock 177 = .ok (.iload_n 2, 1) := by decide +kernel
theorem d_M_decodeBlock_178 : decode b_M_decodeBlock 178 = .ok (.imul, 1) := by decide +kernel
theorem d_M_decodeBlock_179 : decode b_M_decodeBlock 179 = .ok (.iadd, 1) := by decide +kernel
theorem d_M_decodeBlock_180 : decode b_M_decodeBlock 180 = .ok (.iload 11, 2) := by decide +kernel
theorem d_M_decodeBlock_182 : decode b_M_decodeBlock 182 = .ok (.iload 4, 2) := by decide +kernel
theorem d_M_decodeBlock_184 : decode b_M_decodeBlock 184 = .ok (.irem, 1) := by decide +kernel
theorem d_M_decodeBlock_185 : decode b_M_decodeBlock 185 = .ok (.iadd, 1) := by decide +kernel
theorem d_M_decodeBlock_186 : decode b_M_decodeBlock 186 = .ok (.istore 13, 2) := by decide +kernel
