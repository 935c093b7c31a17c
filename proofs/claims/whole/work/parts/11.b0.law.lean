abbrev b_L_law : ByteArray := code
def tb_L_law_0 : List (Nat × Instr × Nat) := [(0, .new 8, 3), (3, .dup, 1), (4, .aload_n 0, 1), (5, .iconst 0, 1), (6, .invokestatic 56, 3), (9, .invokespecial 62, 3), (12, .astore_n 1, 1), (13, .new 65, 3), (16, .dup, 1), (17, .aload_n 0, 1), (18, .iconst 0, 1), (19, .invokestatic 56, 3), (22, .invokespecial 67, 3), (25, .astore_n 2, 1), (26, .iconst 1, 1), (27, .newarray .long, 2), (29, .astore_n 3, 1), (30, .iconst 1, 1), (31, .istore 4, 2), (33, .iload 4, 2), (35, .aload_n 0, 1), (36, .arraylength, 1), (37, .bipush 6, 2), (39, .isub, 1), (40, .if_icmp .gt 940, 3), (43, .aload_n 0, 1), (44, .iload 4, 2), (46, .iaload, 1), (47, .bipush 15, 2), (49, .iand, 1), (50, .tableswitch 924 0 15 #[78, 158, 207, 275, 343, 399, 455, 499, 512, 580, 648, 691, 795, 875, 888, 913], 78), (128, .aload_n 1, 1), (129, .aload_n 0, 1), (130, .iload 4, 2), (132, .iconst 1, 1), (133, .iadd, 1), (134, .iaload, 1), (135, .aload_n 0, 1), (136, .iload 4, 2), (138, .iconst 2, 1), (139, .iadd, 1), (140, .iaload, 1), (141, .aload_n 0, 1), (142, .iload 4, 2), (144, .iconst 3, 1), (145, .iadd, 1), (146, .iaload, 1), (147, .aload_n 3, 1), (148, .invokestatic 68, 3), (151, .istore 5, 2)]
theorem dd_L_law_0 : ∀ (i : Nat) (q : Nat × Instr × Nat), tb_L_law_0[i]? = some q → decode b_L_law q.1 = .ok (q.2.1, q.2.2) := z_tab (by decide +kernel)
theorem d_L_law_0 : decode b_L_law 0 = .ok (.new 8, 3) := dd_L_law_0 0 (0, .new 8, 3) rfl
theorem d_L_law_3 : decode b_L_law 3 = .ok (.dup, 1) := dd_L_law_0 1 (3, .dup, 1) rfl
theorem d_L_law_4 : decode b_L_law 4 = .ok (.aload_n 0, 1) := dd_L_law_0 2 (4, .aload_n 0, 1) rfl
theorem d_L_law_5 : decode b_L_law 5 = .ok (.iconst 0, 1) := dd_L_law_0 3 (5, .iconst 0, 1) rfl
theorem d_L_law_6 : decode b_L_law 6 = .ok (.invokestatic 56, 3) := dd_L_law_0 4 (6, .invokestatic 56, 3) rfl
theorem d_L_law_9 : decode b_L_law 9 = .ok (.invokespecial 62, 3) := dd_L_law_0 5 (9, .invokespecial 62, 3) rfl
theorem d_L_law_12 : decode b_L_law 12 = .ok (.astore_n 1, 1) := dd_L_law_0 6 (12, .astore_n 1, 1) rfl
theorem d_L_law_13 : decode b_L_law 13 = .ok (.new 65, 3) := dd_L_law_0 7 (13, .new 65, 3) rfl
theorem d_L_law_16 : decode b_L_law 16 = .ok (.dup, 1) := dd_L_law_0 8 (16, .dup, 1) rfl
theorem d_L_law_17 : decode b_L_law 17 = .ok (.aload_n 0, 1) := dd_L_law_0 9 (17, .aload_n 0, 1) rfl
theorem d_L_law_18 : decode b_L_law 18 = .ok (.iconst 0, 1) := dd_L_law_0 10 (18, .iconst 0, 1) rfl
theorem d_L_law_19 : decode b_L_law 19 = .ok (.invokestatic 56, 3) := dd_L_law_0 11 (19, .invokestatic 56, 3) rfl
theorem d_L_law_22 : decode b_L_law 22 = .ok (.invokespecial 67, 3) := dd_L_law_0 12 (22, .invokespecial 67, 3) rfl
theorem d_L_law_25 : decode b_L_law 25 = .ok (.astore_n 2, 1) := dd_L_law_0 13 (25, .astore_n 2, 1) rfl
theorem d_L_law_26 : decode b_L_law 26 = .ok (.iconst 1, 1) := dd_L_law_0 14 (26, .iconst 1, 1) rfl
theorem d_L_law_27 : decode b_L_law 27 = .ok (.newarray .long, 2) := dd_L_law_0 15 (27, .newarray .long, 2) rfl
theorem d_L_law_29 : decode b_L_law 29 = .ok (.astore_n 3, 1) := dd_L_law_0 16 (29, .astore_n 3, 1) rfl
theorem d_L_law_30 : decode b_L_law 30 = .ok (.iconst 1, 1) := dd_L_law_0 17 (30, .iconst 1, 1) rfl
theorem d_L_law_31 : decode b_L_law 31 = .ok (.istore 4, 2) := dd_L_law_0 18 (31, .istore 4, 2) rfl
theorem d_L_law_33 : decode b_L_law 33 = .ok (.iload 4, 2) := dd_L_law_0 19 (33, .iload 4, 2) rfl
theorem d_L_law_35 : decode b_L_law 35 = .ok (.aload_n 0, 1) := dd_L_law_0 20 (35, .aload_n 0, 1) rfl
theorem d_L_law_36 : decode b_L_law 36 = .ok (.arraylength, 1) := dd_L_law_0 21 (36, .arraylength, 1) rfl
theorem d_L_law_37 : decode b_L_law 37 = .ok (.bipush 6, 2) := dd_L_law_0 22 (37, .bipush 6, 2) rfl
theorem d_L_law_39 : decode b_L_law 39 = .ok (.isub, 1) := dd_L_law_0 23 (39, .isub, 1) rfl
theorem d_L_law_40 : decode b_L_law 40 = .ok (.if_icmp .gt 940, 3) := dd_L_law_0 24 (40, .if_icmp .gt 940, 3) rfl
theorem d_L_law_43 : decode b_L_law 43 = .ok (.aload_n 0, 1) := dd_L_law_0 25 (43, .aload_n 0, 1) rfl
theorem d_L_law_44 : decode b_L_law 44 = .ok (.iload 4, 2) := dd_L_law_0 26 (44, .iload 4, 2) rfl
theorem d_L_law_46 : decode b_L_law 46 = .ok (.iaload, 1) := dd_L_law_0 27 (46, .iaload, 1) rfl
theorem d_L_law_47 : decode b_L_law 47 = .ok (.bipush 15, 2) := dd_L_law_0 28 (47, .bipush 15, 2) rfl
theorem d_L_law_49 : decode b_L_law 49 = .ok (.iand, 1) := dd_L_law_0 29 (49, .iand, 1) rfl
theorem d_L_law_50 : decode b_L_law 50 = .ok (.tableswitch 924 0 15 #[78, 158, 207, 275, 343, 399, 455, 499, 512, 580, 648, 691, 795, 875, 888, 913], 78) := dd_L_law_0 30 (50, .tableswitch 924 0 15 #[78, 158, 207, 275, 343, 399, 455, 499, 512, 580, 648, 691, 795, 875, 888, 913], 78) rfl
theorem d_L_law_128 : decode b_L_law 128 = .ok (.aload_n 1, 1) := dd_L_law_0 31 (128, .aload_n 1, 1) rfl
theorem d_L_law_129 : decode b_L_law 129 = .ok (.aload_n 0, 1) := dd_L_law_0 32 (129, .aload_n 0, 1) rfl
theorem d_L_law_130 : decode b_L_law 130 = .ok (.iload 4, 2) := dd_L_law_0 33 (130, .iload 4, 2) rfl
theorem d_L_law_132 : decode b_L_law 132 = .ok (.iconst 1, 1) := dd_L_law_0 34 (132, .iconst 1, 1) rfl
theorem d_L_law_133 : decode b_L_law 133 = .ok (.iadd, 1) := dd_L_law_0 35 (133, .iadd, 1) rfl
theorem d_L_law_134 : decode b_L_law 134 = .ok (.iaload, 1) := dd_L_law_0 36 (134, .iaload, 1) rfl
theorem d_L_law_135 : decode b_L_law 135 = .ok (.aload_n 0, 1) := dd_L_law_0 37 (135, .aload_n 0, 1) rfl
theorem d_L_law_136 : decode b_L_law 136 = .ok (.iload 4, 2) := dd_L_law_0 38 (136, .iload 4, 2) rfl
theorem d_L_law_138 : decode b_L_law 138 = .ok (.iconst 2, 1) := dd_L_law_0 39 (138, .iconst 2, 1) rfl
theorem d_L_law_139 : decode b_L_law 139 = .ok (.iadd, 1) := dd_L_law_0 40 (139, .iadd, 1) rfl
theorem d_L_law_140 : decode b_L_law 140 = .ok (.iaload, 1) := dd_L_law_0 41 (140, .iaload, 1) rfl
theorem d_L_law_141 : decode b_L_law 141 = .ok (.aload_n 0, 1) := dd_L_law_0 42 (141, .aload_n 0, 1) rfl
theorem d_L_law_142 : decode b_L_law 142 = .ok (.iload 4, 2) := dd_L_law_0 43 (142, .iload 4, 2) rfl
theorem d_L_law_144 : decode b_L_law 144 = .ok (.iconst 3, 1) := dd_L_law_0 44 (144, .iconst 3, 1) rfl
theorem d_L_law_145 : decode b_L_law 145 = .ok (.iadd, 1) := dd_L_law_0 45 (145, .iadd, 1) rfl
theorem d_L_law_146 : decode b_L_law 146 = .ok (.iaload, 1) := dd_L_law_0 46 (146, .iaload, 1) rfl
theorem d_L_law_147 : decode b_L_law 147 = .ok (.aload_n 3, 1) := dd_L_law_0 47 (147, .aload_n 3, 1) rfl
theorem d_L_law_148 : decode b_L_law 148 = .ok (.invokestatic 68, 3) := dd_L_law_0 48 (148, .invokestatic 68, 3) rfl
theorem d_L_law_151 : decode b_L_law 151 = .ok (.istore 5, 2) := dd_L_law_0 49 (151, .istore 5, 2) rfl
def tb_L_law_1 : List (Nat × Instr × Nat) := [(153, .aload_n 2, 1), (154, .aload_n 0, 1), (155, .iload 4, 2), (157, .iconst 1, 1), (158, .iadd, 1), (159, .iaload, 1), (160, .aload_n 0, 1), (161, .iload 4, 2), (163, .iconst 2, 1), (164, .iadd, 1), (165, .iaload, 1), (166, .aload_n 0, 1), (167, .iload 4, 2), (169, .iconst 3, 1), (170, .iadd, 1), (171, .iaload, 1), (172, .invokevirtual 71, 3), (175, .istore 6, 2), (177, .aload_n 2, 1), (178, .invokevirtual 72, 3), (181, .iload 5, 2), (183, .if_icmp .eq 5, 3), (186, .iconst 0, 1), (187, .ireturn, 1), (188, .iload 5, 2), (190, .ifCond .ne 15, 3), (193, .aload_n 3, 1), (194, .iconst 0, 1), (195, .laload, 1), (196, .iload 6, 2), (198, .i2l, 1), (199, .lcmp, 1), (200, .ifCond .eq 5, 3), (203, .iconst 0, 1), (204, .ireturn, 1), (205, .goto 769, 3), (208, .aload_n 1, 1), (209, .aload_n 0, 1), (210, .iload 4, 2), (212, .iconst 1, 1), (213, .iadd, 1), (214, .iaload, 1), (215, .aload_n 0, 1), (216, .iload 4, 2), (218, .iconst 2, 1), (219, .iadd, 1), (220, .iaload, 1), (221, .aload_n 0, 1), (222, .iload 4, 2), (224, .iconst 3, 1)]
theorem dd_L_law_1 : ∀ (i : Nat) (q : Nat × Instr × Nat), tb_L_law_1[i]? = some q → decode b_L_law q.1 = .ok (q.2.1, q.2.2) := z_tab (by decide +kernel)
theorem d_L_law_153 : decode b_L_law 153 = .ok (.aload_n 2, 1) := dd_L_law_1 0 (153, .aload_n 2, 1) rfl
theorem d_L_law_154 : decode b_L_law 154 = .ok (.aload_n 0, 1) := dd_L_law_1 1 (154, .aload_n 0, 1) rfl
theorem d_L_law_155 : decode b_L_law 155 = .ok (.iload 4, 2) := dd_L_law_1 2 (155, .iload 4, 2) rfl
theorem d_L_law_157 : decode b_L_law 157 = .ok (.iconst 1, 1) := dd_L_law_1 3 (157, .iconst 1, 1) rfl
theorem d_L_law_158 : decode b_L_law 158 = .ok (.iadd, 1) := dd_L_law_1 4 (158, .iadd, 1) rfl
theorem d_L_law_159 : decode b_L_law 159 = .ok (.iaload, 1) := dd_L_law_1 5 (159, .iaload, 1) rfl
theorem d_L_law_160 : decode b_L_law 160 = .ok (.aload_n 0, 1) := dd_L_law_1 6 (160, .aload_n 0, 1) rfl
theorem d_L_law_161 : decode b_L_law 161 = .ok (.iload 4, 2) := dd_L_law_1 7 (161, .iload 4, 2) rfl
theorem d_L_law_163 : decode b_L_law 163 = .ok (.iconst 2, 1) := dd_L_law_1 8 (163, .iconst 2, 1) rfl
theorem d_L_law_164 : decode b_L_law 164 = .ok (.iadd, 1) := dd_L_law_1 9 (164, .iadd, 1) rfl
theorem d_L_law_165 : decode b_L_law 165 = .ok (.iaload, 1) := dd_L_law_1 10 (165, .iaload, 1) rfl
theorem d_L_law_166 : decode b_L_law 166 = .ok (.aload_n 0, 1) := dd_L_law_1 11 (166, .aload_n 0, 1) rfl
theorem d_L_law_167 : decode b_L_law 167 = .ok (.iload 4, 2) := dd_L_law_1 12 (167, .iload 4, 2) rfl
theorem d_L_law_169 : decode b_L_law 169 = .ok (.iconst 3, 1) := dd_L_law_1 13 (169, .iconst 3, 1) rfl
theorem d_L_law_170 : decode b_L_law 170 = .ok (.iadd, 1) := dd_L_law_1 14 (170, .iadd, 1) rfl
theorem d_L_law_171 : decode b_L_law 171 = .ok (.iaload, 1) := dd_L_law_1 15 (171, .iaload, 1) rfl
theorem d_L_law_172 : decode b_L_law 172 = .ok (.invokevirtual 71, 3) := dd_L_law_1 16 (172, .invokevirtual 71, 3) rfl
theorem d_L_law_175 : decode b_L_law 175 = .ok (.istore 6, 2) := dd_L_law_1 17 (175, .istore 6, 2) rfl
theorem d_L_law_177 : decode b_L_law 177 = .ok (.aload_n 2, 1) := dd_L_law_1 18 (177, .aload_n 2, 1) rfl
theorem d_L_law_178 : decode b_L_law 178 = .ok (.invokevirtual 72, 3) := dd_L_law_1 19 (178, .invokevirtual 72, 3) rfl
theorem d_L_law_181 : decode b_L_law 181 = .ok (.iload 5, 2) := dd_L_law_1 20 (181, .iload 5, 2) rfl
theorem d_L_law_183 : decode b_L_law 183 = .ok (.if_icmp .eq 5, 3) := dd_L_law_1 21 (183, .if_icmp .eq 5, 3) rfl
theorem d_L_law_186 : decode b_L_law 186 = .ok (.iconst 0, 1) := dd_L_law_1 22 (186, .iconst 0, 1) rfl
theorem d_L_law_187 : decode b_L_law 187 = .ok (.ireturn, 1) := dd_L_law_1 23 (187, .ireturn, 1) rfl
theorem d_L_law_188 : decode b_L_law 188 = .ok (.iload 5, 2) := dd_L_law_1 24 (188, .iload 5, 2) rfl
theorem d_L_law_190 : decode b_L_law 190 = .ok (.ifCond .ne 15, 3) := dd_L_law_1 25 (190, .ifCond .ne 15, 3) rfl
theorem d_L_law_193 : decode b_L_law 193 = .ok (.aload_n 3, 1) := dd_L_law_1 26 (193, .aload_n 3, 1) rfl
theorem d_L_law_194 : decode b_L_law 194 = .ok (.iconst 0, 1) := dd_L_law_1 27 (194, .iconst 0, 1) rfl
theorem d_L_law_195 : decode b_L_law 195 = .ok (.laload, 1) := dd_L_law_1 28 (195, .laload, 1) rfl
theorem d_L_law_196 : decode b_L_law 196 = .ok (.iload 6, 2) := dd_L_law_1 29 (196, .iload 6, 2) rfl
theorem d_L_law_198 : decode b_L_law 198 = .ok (.i2l, 1) := dd_L_law_1 30 (198, .i2l, 1) rfl
theorem d_L_law_199 : decode b_L_law 199 = .ok (.lcmp, 1) := dd_L_law_1 31 (199, .lcmp, 1) rfl
theorem d_L_law_200 : decode b_L_law 200 = .ok (.ifCond .eq 5, 3) := dd_L_law_1 32 (200, .ifCond .eq 5, 3) rfl
theorem d_L_law_203 : decode b_L_law 203 = .ok (.iconst 0, 1) := dd_L_law_1 33 (203, .iconst 0, 1) rfl
theorem d_L_law_204 : decode b_L_law 204 = .ok (.ireturn, 1) := dd_L_law_1 34 (204, .ireturn, 1) rfl
theorem d_L_law_205 : decode b_L_law 205 = .ok (.goto 769, 3) := dd_L_law_1 35 (205, .goto 769, 3) rfl
theorem d_L_law_208 : decode b_L_law 208 = .ok (.aload_n 1, 1) := dd_L_law_1 36 (208, .aload_n 1, 1) rfl
theorem d_L_law_209 : decode b_L_law 209 = .ok (.aload_n 0, 1) := dd_L_law_1 37 (209, .aload_n 0, 1) rfl
theorem d_L_law_210 : decode b_L_law 210 = .ok (.iload 4, 2) := dd_L_law_1 38 (210, .iload 4, 2) rfl
theorem d_L_law_212 : decode b_L_law 212 = .ok (.iconst 1, 1) := dd_L_law_1 39 (212, .iconst 1, 1) rfl
theorem d_L_law_213 : decode b_L_law 213 = .ok (.iadd, 1) := dd_L_law_1 40 (213, .iadd, 1) rfl
theorem d_L_law_214 : decode b_L_law 214 = .ok (.iaload, 1) := dd_L_law_1 41 (214, .iaload, 1) rfl
theorem d_L_law_215 : decode b_L_law 215 = .ok (.aload_n 0, 1) := dd_L_law_1 42 (215, .aload_n 0, 1) rfl
theorem d_L_law_216 : decode b_L_law 216 = .ok (.iload 4, 2) := dd_L_law_1 43 (216, .iload 4, 2) rfl
theorem d_L_law_218 : decode b_L_law 218 = .ok (.iconst 2, 1) := dd_L_law_1 44 (218, .iconst 2, 1) rfl
theorem d_L_law_219 : decode b_L_law 219 = .ok (.iadd, 1) := dd_L_law_1 45 (219, .iadd, 1) rfl
theorem d_L_law_220 : decode b_L_law 220 = .ok (.iaload, 1) := dd_L_law_1 46 (220, .iaload, 1) rfl
theorem d_L_law_221 : decode b_L_law 221 = .ok (.aload_n 0, 1) := dd_L_law_1 47 (221, .aload_n 0, 1) rfl
theorem d_L_law_222 : decode b_L_law 222 = .ok (.iload 4, 2) := dd_L_law_1 48 (222, .iload 4, 2) rfl
theorem d_L_law_224 : decode b_L_law 224 = .ok (.iconst 3, 1) := dd_L_law_1 49 (224, .iconst 3, 1) rfl
def tb_L_law_2 : List (Nat × Instr × Nat) := [(225, .iadd, 1), (226, .iaload, 1), (227, .invokevirtual 75, 3), (230, .aload_n 2, 1), (231, .aload_n 0, 1), (232, .iload 4, 2), (234, .iconst 1, 1), (235, .iadd, 1), (236, .iaload, 1), (237, .aload_n 0, 1), (238, .iload 4, 2), (240, .iconst 2, 1), (241, .iadd, 1), (242, .iaload, 1), (243, .aload_n 0, 1), (244, .iload 4, 2), (246, .iconst 3, 1), (247, .iadd, 1), (248, .iaload, 1), (249, .invokevirtual 78, 3), (252, .if_icmp .eq 722, 3), (255, .iconst 0, 1), (256, .ireturn, 1), (257, .aload_n 1, 1), (258, .aload_n 0, 1), (259, .iload 4, 2), (261, .iconst 1, 1), (262, .iadd, 1), (263, .iaload, 1), (264, .aload_n 0, 1), (265, .iload 4, 2), (267, .iconst 2, 1), (268, .iadd, 1), (269, .iaload, 1), (270, .aload_n 3, 1), (271, .invokestatic 79, 3), (274, .istore 5, 2), (276, .aload_n 2, 1), (277, .aload_n 0, 1), (278, .iload 4, 2), (280, .iconst 1, 1), (281, .iadd, 1), (282, .iaload, 1), (283, .aload_n 0, 1), (284, .iload 4, 2), (286, .iconst 2, 1), (287, .iadd, 1), (288, .iaload, 1), (289, .invokevirtual 82, 3), (292, .istore 6, 2)]
theorem dd_L_law_2 : ∀ (i : Nat) (q : Nat × Instr × Nat), tb_L_law_2[i]? = some q → decode b_L_law q.1 = .ok (q.2.1, q.2.2) := z_tab (by decide +kernel)
theorem d_L_law_225 : decode b_L_law 225 = .ok (.iadd, 1) := dd_L_law_2 0 (225, .iadd, 1) rfl
theorem d_L_law_226 : decode b_L_law 226 = .ok (.iaload, 1) := dd_L_law_2 1 (226, .iaload, 1) rfl
theorem d_L_law_227 : decode b_L_law 227 = .ok (.invokevirtual 75, 3) := dd_L_law_2 2 (227, .invokevirtual 75, 3) rfl
theorem d_L_law_230 : decode b_L_law 230 = .ok (.aload_n 2, 1) := dd_L_law_2 3 (230, .aload_n 2, 1) rfl
theorem d_L_law_231 : decode b_L_law 231 = .ok (.aload_n 0, 1) := dd_L_law_2 4 (231, .aload_n 0, 1) rfl
theorem d_L_law_232 : decode b_L_law 232 = .ok (.iload 4, 2) := dd_L_law_2 5 (232, .iload 4, 2) rfl
theorem d_L_law_234 : decode b_L_law 234 = .ok (.iconst 1, 1) := dd_L_law_2 6 (234, .iconst 1, 1) rfl
theorem d_L_law_235 : decode b_L_law 235 = .ok (.iadd, 1) := dd_L_law_2 7 (235, .iadd, 1) rfl
theorem d_L_law_236 : decode b_L_law 236 = .ok (.iaload, 1) := dd_L_law_2 8 (236, .iaload, 1) rfl
theorem d_L_law_237 : decode b_L_law 237 = .ok (.aload_n 0, 1) := dd_L_law_2 9 (237, .aload_n 0, 1) rfl
theorem d_L_law_238 : decode b_L_law 238 = .ok (.iload 4, 2) := dd_L_law_2 10 (238, .iload 4, 2) rfl
theorem d_L_law_240 : decode b_L_law 240 = .ok (.iconst 2, 1) := dd_L_law_2 11 (240, .iconst 2, 1) rfl
theorem d_L_law_241 : decode b_L_law 241 = .ok (.iadd, 1) := dd_L_law_2 12 (241, .iadd, 1) rfl
theorem d_L_law_242 : decode b_L_law 242 = .ok (.iaload, 1) := dd_L_law_2 13 (242, .iaload, 1) rfl
theorem d_L_law_243 : decode b_L_law 243 = .ok (.aload_n 0, 1) := dd_L_law_2 14 (243, .aload_n 0, 1) rfl
theorem d_L_law_244 : decode b_L_law 244 = .ok (.iload 4, 2) := dd_L_law_2 15 (244, .iload 4, 2) rfl
theorem d_L_law_246 : decode b_L_law 246 = .ok (.iconst 3, 1) := dd_L_law_2 16 (246, .iconst 3, 1) rfl
theorem d_L_law_247 : decode b_L_law 247 = .ok (.iadd, 1) := dd_L_law_2 17 (247, .iadd, 1) rfl
theorem d_L_law_248 : decode b_L_law 248 = .ok (.iaload, 1) := dd_L_law_2 18 (248, .iaload, 1) rfl
theorem d_L_law_249 : decode b_L_law 249 = .ok (.invokevirtual 78, 3) := dd_L_law_2 19 (249, .invokevirtual 78, 3) rfl
theorem d_L_law_252 : decode b_L_law 252 = .ok (.if_icmp .eq 722, 3) := dd_L_law_2 20 (252, .if_icmp .eq 722, 3) rfl
theorem d_L_law_255 : decode b_L_law 255 = .ok (.iconst 0, 1) := dd_L_law_2 21 (255, .iconst 0, 1) rfl
theorem d_L_law_256 : decode b_L_law 256 = .ok (.ireturn, 1) := dd_L_law_2 22 (256, .ireturn, 1) rfl
theorem d_L_law_257 : decode b_L_law 257 = .ok (.aload_n 1, 1) := dd_L_law_2 23 (257, .aload_n 1, 1) rfl
theorem d_L_law_258 : decode b_L_law 258 = .ok (.aload_n 0, 1) := dd_L_law_2 24 (258, .aload_n 0, 1) rfl
theorem d_L_law_259 : decode b_L_law 259 = .ok (.iload 4, 2) := dd_L_law_2 25 (259, .iload 4, 2) rfl
theorem d_L_law_261 : decode b_L_law 261 = .ok (.iconst 1, 1) := dd_L_law_2 26 (261, .iconst 1, 1) rfl
theorem d_L_law_262 : decode b_L_law 262 = .ok (.iadd, 1) := dd_L_law_2 27 (262, .iadd, 1) rfl
theorem d_L_law_263 : decode b_L_law 263 = .ok (.iaload, 1) := dd_L_law_2 28 (263, .iaload, 1) rfl
theorem d_L_law_264 : decode b_L_law 264 = .ok (.aload_n 0, 1) := dd_L_law_2 29 (264, .aload_n 0, 1) rfl
theorem d_L_law_265 : decode b_L_law 265 = .ok (.iload 4, 2) := dd_L_law_2 30 (265, .iload 4, 2) rfl
theorem d_L_law_267 : decode b_L_law 267 = .ok (.iconst 2, 1) := dd_L_law_2 31 (267, .iconst 2, 1) rfl
theorem d_L_law_268 : decode b_L_law 268 = .ok (.iadd, 1) := dd_L_law_2 32 (268, .iadd, 1) rfl
theorem d_L_law_269 : decode b_L_law 269 = .ok (.iaload, 1) := dd_L_law_2 33 (269, .iaload, 1) rfl
theorem d_L_law_270 : decode b_L_law 270 = .ok (.aload_n 3, 1) := dd_L_law_2 34 (270, .aload_n 3, 1) rfl
theorem d_L_law_271 : decode b_L_law 271 = .ok (.invokestatic 79, 3) := dd_L_law_2 35 (271, .invokestatic 79, 3) rfl
theorem d_L_law_274 : decode b_L_law 274 = .ok (.istore 5, 2) := dd_L_law_2 36 (274, .istore 5, 2) rfl
theorem d_L_law_276 : decode b_L_law 276 = .ok (.aload_n 2, 1) := dd_L_law_2 37 (276, .aload_n 2, 1) rfl
theorem d_L_law_277 : decode b_L_law 277 = .ok (.aload_n 0, 1) := dd_L_law_2 38 (277, .aload_n 0, 1) rfl
theorem d_L_law_278 : decode b_L_law 278 = .ok (.iload 4, 2) := dd_L_law_2 39 (278, .iload 4, 2) rfl
theorem d_L_law_280 : decode b_L_law 280 = .ok (.iconst 1, 1) := dd_L_law_2 40 (280, .iconst 1, 1) rfl
theorem d_L_law_281 : decode b_L_law 281 = .ok (.iadd, 1) := dd_L_law_2 41 (281, .iadd, 1) rfl
theorem d_L_law_282 : decode b_L_law 282 = .ok (.iaload, 1) := dd_L_law_2 42 (282, .iaload, 1) rfl
theorem d_L_law_283 : decode b_L_law 283 = .ok (.aload_n 0, 1) := dd_L_law_2 43 (283, .aload_n 0, 1) rfl
theorem d_L_law_284 : decode b_L_law 284 = .ok (.iload 4, 2) := dd_L_law_2 44 (284, .iload 4, 2) rfl
theorem d_L_law_286 : decode b_L_law 286 = .ok (.iconst 2, 1) := dd_L_law_2 45 (286, .iconst 2, 1) rfl
theorem d_L_law_287 : decode b_L_law 287 = .ok (.iadd, 1) := dd_L_law_2 46 (287, .iadd, 1) rfl
theorem d_L_law_288 : decode b_L_law 288 = .ok (.iaload, 1) := dd_L_law_2 47 (288, .iaload, 1) rfl
theorem d_L_law_289 : decode b_L_law 289 = .ok (.invokevirtual 82, 3) := dd_L_law_2 48 (289, .invokevirtual 82, 3) rfl
theorem d_L_law_292 : decode b_L_law 292 = .ok (.istore 6, 2) := dd_L_law_2 49 (292, .istore 6, 2) rfl
