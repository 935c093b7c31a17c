theorem d_M_note_60 : decode b_M_note 60 = .ok (.iadd, 1) := by decide +kernel
theorem d_M_note_61 : decode b_M_note 61 = .ok (.aload_n 0, 1) := by decide +kernel
theorem d_M_note_62 : decode b_M_note 62 = .ok (.getfield 43, 3) := by decide +kernel
theorem d_M_note_65 : decode b_M_note 65 = .ok (.iload 6, 2) := by decide +kernel
theorem d_M_note_67 : decode b_M_note 67 = .ok (.iaload, 1) := by decide +kernel
theorem d_M_note_68 : decode b_M_note 68 = .ok (.iastore, 1) := by decide +kernel
theorem d_M_note_69 : decode b_M_note 69 = .ok (.iinc 6 1, 3) := by decide +kernel
theorem d_M_note_72 : decode b_M_note 72 = .ok (.goto (-28), 3) := by decide +kernel
theorem d_M_note_75 : decode b_M_note 75 = .ok (.aload_n 0, 1) := by decide +kernel
theorem d_M_note_76 : decode b_M_note 76 = .ok (.getfield 16, 3) := by decide +kernel
theorem d_M_note_79 : decode b_M_note 79 = .ok (.iload 5, 2) := by decide +kernel
theorem d_M_note_81 : decode b_M_note 81 = .ok (.bipush 7, 2) := by decide +kernel
theorem d_M_note_83 : decode b_M_note 83 = .ok (.iadd, 1) := by decide +kernel
theorem d_M_note_84 : decode b_M_note 84 = .ok (.iload 4, 2) := by decide +kernel
theorem d_M_note_86 : decode b_M_note 86 = .ok (.iastore, 1) := by decide +kernel
theorem d_M_note_87 : decode b_M_note 87 = .ok (.aload_n 0, 1) := by decide +kernel
theorem d_M_note_88 : decode b_M_note 88 = .ok (.dup, 1) := by decide +kernel
theorem d_M_note_89 : decode b_M_note 89 = .ok (.getfield 120, 3) := by decide +kernel
theorem d_M_note_92 : decode b_M_note 92 = .ok (.iconst 1, 1) := by decide +kernel
theorem d_M_note_93 : decode b_M_note 93 = .ok (.iadd, 1) := by decide +kernel
theorem d_M_note_94 : decode b_M_note 94 = .ok (.putfield 120, 3) := by decide +kernel
theorem d_M_note_97 : decode b_M_note 97 = .ok (.return_, 1) := by decide +kernel
theorem d_M_domain_0 : decode b_M_domain 0 = .ok (.aload_n 0, 1) := by decide +kernel
theorem d_M_domain_1 : decode b_M_domain 1 = .ok (.iload_n 1, 1) := by decide +kernel
theorem d_M_domain_2 : decode b_M_domain 2 = .ok (.invokestatic 129, 3) := by decide +kernel
theorem d_M_domain_5 : decode b_M_domain 5 = .ok (.ifCond .eq 25, 3) := by decide +kernel
theorem d_M_domain_8 : decode b_M_domain 8 = .ok (.iconst 2, 1) := by decide +kernel
theorem d_M_domain_9 : decode b_M_domain 9 = .ok (.iload_n 1, 1) := by decide +kernel
theorem d_M_domain_10 : decode b_M_domain 10 = .ok (.imul, 1) := by decide +kernel
theorem d_M_domain_11 : decode b_M_domain 11 = .ok (.aload_n 0, 1) := by decide +kernel
theorem d_M_domain_12 : decode b_M_domain 12 = .ok (.getfield 46, 3) := by decide +kernel
theorem d_M_domain_15 : decode b_M_domain 15 = .ok (.if_icmp .gt 15, 3) := by decide +kernel
theorem d_M_domain_18 : decode b_M_domain 18 = .ok (.iload_n 3, 1) := by decide +kernel
theorem d_M_domain_19 : decode b_M_domain 19 = .ok (.i2l, 1) := by decide +kernel
theorem d_M_domain_20 : decode b_M_domain 20 = .ok (.lconst 0, 1) := by decide +kernel
theorem d_M_domain_21 : decode b_M_domain 21 = .ok (.ldc2_w 157, 3) := by decide +kernel
theorem d_M_domain_24 : decode b_M_domain 24 = .ok (.invokestatic 55, 3) := by decide +kernel
theorem d_M_domain_27 : decode b_M_domain 27 = .ok (.ifCond .ne 7, 3) := by decide +kernel
theorem d_M_domain_30 : decode b_M_domain 30 = .ok (.iconst 1, 1) := by decide +kernel
theorem d_M_domain_31 : decode b_M_domain 31 = .ok (.goto 4, 3) := by decide +kernel
theorem d_M_domain_34 : decode b_M_domain 34 = .ok (.iconst 0, 1) := by decide +kernel
theorem d_M_domain_35 : decode b_M_domain 35 = .ok (.putfield 50, 3) := by decide +kernel
theorem d_M_domain_38 : decode b_M_domain 38 = .ok (.aload_n 0, 1) := by decide +kernel
theorem d_M_domain_39 : decode b_M_domain 39 = .ok (.getfield 50, 3) := by decide +kernel
theorem d_M_domain_42 : decode b_M_domain 42 = .ok (.ifCond .ne 67, 3) := by decide +kernel
theorem d_M_domain_45 : decode b_M_domain 45 = .ok (.aload_n 0, 1) := by decide +kernel
theorem d_M_domain_46 : decode b_M_domain 46 = .ok (.iload_n 1, 1) := by decide +kernel
theorem d_M_domain_47 : decode b_M_domain 47 = .ok (.invokevirtual 69, 3) := by decide +kernel
theorem d_M_domain_50 : decode b_M_domain 50 = .ok (.aload_n 0, 1) := by decide +kernel
theorem d_M_domain_51 : decode b_M_domain 51 = .ok (.iload_n 1, 1) := by decide +kernel
theorem d_M_domain_52 : decode b_M_domain 52 = .ok (.invokevirtual 69, 3) := by decide +kernel
theorem d_M_domain_55 : decode b_M_domain 55 = .ok (.imul, 1) := by decide +kernel
theorem d_M_domain_56 : decode b_M_domain 56 = .ok (.istore 6, 2) := by decide +kernel
theorem d_M_domain_58 : decode b_M_domain 58 = .ok (.aload_n 0, 1) := by decide +kernel
theorem d_M_domain_59 : decode b_M_domain 59 = .ok (.iload_n 2, 1) := by decide +kernel
theorem d_M_domain_60 : decode b_M_domain 60 = .ok (.i2l, 1) := by decide +kernel
theorem d_M_domain_61 : decode b_M_domain 61 = .ok (.lconst 0, 1) := by decide +kernel
theorem d_M_domain_62 : decode b_M_domain 62 = .ok (.iload 6, 2) := by decide +kernel
theorem d_M_domain_64 : decode b_M_domain 64 = .ok (.iconst 1, 1) := by decide +kernel
theorem d_M_domain_65 : decode b_M_domain 65 = .ok (.isub, 1) := by decide +kernel
theorem d_M_domain_66 : decode b_M_domain 66 = .ok (.i2l, 1) := by decide +kernel
theorem d_M_domain_67 : decode b_M_domain 67 = .ok (.invokestatic 55, 3) := by decide +kernel
theorem d_M_domain_70 : decode b_M_domain 70 = .ok (.ifCond .eq 35, 3) := by decide +kernel
theorem d_M_domain_73 : decode b_M_domain 73 = .ok (.iload 4, 2) := by decide +kernel
theorem d_M_domain_75 : decode b_M_domain 75 = .ok (.i2l, 1) := by decide +kernel
theorem d_M_domain_76 : decode b_M_domain 76 = .ok (.lconst 0, 1) := by decide +kernel
theorem d_M_domain_77 : decode b_M_domain 77 = .ok (.iload_n 1, 1) := by decide +kernel
theorem d_M_domain_78 : decode b_M_domain 78 = .ok (.iconst 1, 1) := by decide +kernel
theorem d_M_domain_79 : decode b_M_domain 79 = .ok (.isub, 1) := by decide +kernel
theorem d_M_domain_80 : decode b_M_domain 80 = .ok (.i2l, 1) := by decide +kernel
theorem d_M_domain_81 : decode b_M_domain 81 = .ok (.invokestatic 55, 3) := by decide +kernel
theorem d_M_domain_84 : decode b_M_domain 84 = .ok (.ifCond .eq 21, 3) := by decide +kernel
theorem d_M_domain_87 : decode b_M_domain 87 = .ok (.iload 5, 2) := by decide +kernel
theorem d_M_domain_89 : decode b_M_domain 89 = .ok (.i2l, 1) := by decide +kernel
theorem d_M_domain_90 : decode b_M_domain 90 = .ok (.lconst 0, 1) := by decide +kernel
theorem d_M_domain_91 : decode b_M_domain 91 = .ok (.iload_n 1, 1) := by decide +kernel
theorem d_M_domain_92 : decode b_M_domain 92 = .ok (.iconst 1, 1) := by decide +kernel
theorem d_M_domain_93 : decode b_M_domain 93 = .ok (.isub, 1) := by decide +kernel
theorem d_M_domain_94 : decode b_M_domain 94 = .ok (.i2l, 1) := by decide +kernel
theorem d_M_domain_95 : decode b_M_domain 95 = .ok (.invokestatic 55, 3) := by decide +kernel
theorem d_M_domain_98 : decode b_M_domain 98 = .ok (.ifCond .eq 7, 3) := by decide +kernel
theorem d_M_domain_101 : decode b_M_domain 101 = .ok (.iconst 0, 1) := by decide +kernel
theorem d_M_domain_102 : decode b_M_domain 102 = .ok (.goto 4, 3) := by decide +kernel
theorem d_M_domain_105 : decode b_M_domain 105 = .ok (.iconst 2, 1) := by decide +kernel
theorem d_M_domain_106 : decode b_M_domain 106 = .ok (.putfield 50, 3) := by decide +kernel
theorem d_M_domain_109 : decode b_M_domain 109 = .ok (.aload_n 0, 1) := by decide +kernel
theorem d_M_domain_110 : decode b_M_domain 110 = .ok (.getfield 50, 3) := by decide +kernel
theorem d_M_domain_113 : decode b_M_domain 113 = .ok (.ifCond .le 5, 3) := by decide +kernel
theorem d_M_domain_116 : decode b_M_domain 116 = .ok (.iconst 0, 1) := by decide +kernel
theorem d_M_domain_117 : decode b_M_domain 117 = .ok (.ireturn, 1) := by decide +kernel
theorem d_M_domain_118 : decode b_M_domain 118 = .ok (.aload_n 0, 1) := by decide +kernel
theorem d_M_domain_119 : decode b_M_domain 119 = .ok (.getfield 7, 3) := by decide +kernel
theorem d_M_domain_122 : decode b_M_domain 122 = .ok (.aload_n 0, 1) := by decide +kernel
theorem d_M_domain_123 : decode b_M_domain 123 = .ok (.getfield 46, 3) := by decide +kernel
theorem d_M_domain_126 : decode b_M_domain 126 = .ok (.aload_n 0, 1) := by decide +kernel
theorem d_M_domain_127 : decode b_M_domain 127 = .ok (.getfield 13, 3) := by decide +kernel
theorem d_M_domain_130 : decode b_M_domain 130 = .ok (.invokestatic 133, 3) := by decide +kernel
theorem d_M_domain_133 : decode b_M_domain 133 = .ok (.aload_n 0, 1) := by decide +kernel
theorem d_M_domain_134 : decode b_M_domain 134 = .ok (.iload_n 1, 1) := by decide +kernel
theorem d_M_domain_135 : decode b_M_domain 135 = .ok (.iload_n 2, 1) := by decide +kernel
theorem d_M_domain_136 : decode b_M_domain 136 = .ok (.iload_n 3, 1) := by decide +kernel
theorem d_M_domain_137 : decode b_M_domain 137 = .ok (.invokevirtual 105, 3) := by decide +kernel
theorem d_M_domain_140 : decode b_M_domain 140 = .ok (.aload_n 0, 1) := by decide +kernel
theorem d_M_domain_141 : decode b_M_domain 141 = .ok (.getfield 37, 3) := by decide +kernel
theorem d_M_domain_144 : decode b_M_domain 144 = .ok (.iload_n 1, 1) := by decide +kernel
theorem d_M_domain_145 : decode b_M_domain 145 = .ok (.iload 5, 2) := by decide +kernel
theorem d_M_domain_147 : decode b_M_domain 147 = .ok (.imul, 1) := by decide +kernel
theorem d_M_domain_148 : decode b_M_domain 148 = .ok (.iload 4, 2) := by decide +kernel
theorem d_M_domain_150 : decode b_M_domain 150 = .ok (.iadd, 1) := by decide +kernel
theorem d_M_domain_151 : decode b_M_domain 151 = .ok (.iaload, 1) := by decide +kernel
theorem d_M_domain_152 : decode b_M_domain 152 = .ok (.ireturn, 1) := by decide +kernel
theorem d_M_halve_0 : decode b_M_halve 0 = .ok (.iload_n 1, 1) := by decide +kernel
theorem d_M_halve_1 : decode b_M_halve 1 = .ok (.iconst 2, 1) := by decide +kernel
theorem d_M_halve_2 : decode b_M_halve 2 = .ok (.idiv, 1) := by decide +kernel
theorem d_M_halve_3 : decode b_M_halve 3 = .ok (.istore_n 3, 1) := by decide +kernel
theorem d_M_halve_4 : decode b_M_halve 4 = .ok (.iconst 0, 1) := by decide +kernel
theorem d_M_halve_5 : decode b_M_halve 5 = .ok (.istore 4, 2) := by decide +kernel
theorem d_M_halve_7 : decode b_M_halve 7 = .ok (.iload 4, 2) := by decide +kernel
theorem d_M_halve_9 : decode b_M_halve 9 = .ok (.iload_n 3, 1) := by decide +kernel
theorem d_M_halve_10 : decode b_M_halve 10 = .ok (.iload_n 3, 1) := by decide +kernel
theorem d_M_halve_11 : decode b_M_halve 11 = .ok (.imul, 1) := by decide +kernel
theorem d_M_halve_12 : decode b_M_halve 12 = .ok (.if_icmp .ge 61, 3) := by decide +kernel
theorem d_M_halve_15 : decode b_M_halve 15 = .ok (.iconst 2, 1) := by decide +kernel
theorem d_M_halve_16 : decode b_M_halve 16 = .ok (.iload 4, 2) := by decide +kernel
theorem d_M_halve_18 : decode b_M_halve 18 = .ok (.iload_n 3, 1) := by decide +kernel
theorem d_M_halve_19 : decode b_M_halve 19 = .ok (.idiv, 1) := by decide +kernel
theorem d_M_halve_20 : decode b_M_halve 20 = .ok (.imul, 1) := by decide +kernel
theorem d_M_halve_21 : decode b_M_halve 21 = .ok (.iload_n 1, 1) := by decide +kernel
theorem d_M_halve_22 : decode b_M_halve 22 = .ok (.imul, 1) := by decide +kernel
theorem d_M_halve_23 : decode b_M_halve 23 = .ok (.iconst 2, 1) := by decide +kernel
theorem d_M_halve_24 : decode b_M_halve 24 = .ok (.iload 4, 2) := by decide +kernel
theorem d_M_halve_26 : decode b_M_halve 26 = .ok (.iload_n 3, 1) := by decide +kernel
theorem d_M_halve_27 : decode b_M_halve 27 = .ok (.irem, 1) := by decide +kernel
theorem d_M_halve_28 : decode b_M_halve 28 = .ok (.imul, 1) := by decide +kernel
theorem d_M_halve_29 : decode b_M_halve 29 = .ok (.iadd, 1) := by decide +kernel
theorem d_M_halve_30 : decode b_M_halve 30 = .ok (.istore 5, 2) := by decide +kernel
theorem d_M_halve_32 : decode b_M_halve 32 = .ok (.aload_n 2, 1) := by decide +kernel
theorem d_M_halve_33 : decode b_M_halve 33 = .ok (.iload 4, 2) := by decide +kernel
theorem d_M_halve_35 : decode b_M_halve 35 = .ok (.aload_n 0, 1) := by decide +kernel
theorem d_M_halve_36 : decode b_M_halve 36 = .ok (.iload 5, 2) := by decide +kernel
theorem d_M_halve_38 : decode b_M_halve 38 = .ok (.iaload, 1) := by decide +kernel
theorem d_M_halve_39 : decode b_M_halve 39 = .ok (.aload_n 0, 1) := by decide +kernel
theorem d_M_halve_40 : decode b_M_halve 40 = .ok (.iload 5, 2) := by decide +kernel
theorem d_M_halve_42 : decode b_M_halve 42 = .ok (.iconst 1, 1) := by decide +kernel
theorem d_M_halve_43 : decode b_M_halve 43 = .ok (.iadd, 1) := by decide +kernel
theorem d_M_halve_44 : decode b_M_halve 44 = .ok (.iaload, 1) := by decide +kernel
theorem d_M_halve_45 : decode b_M_halve 45 = .ok (.iadd, 1) := by decide +kernel
theorem d_M_halve_46 : decode b_M_halve 46 = .ok (.aload_n 0, 1) := by decide +kernel
theorem d_M_halve_47 : decode b_M_halve 47 = .ok (.iload 5, 2) := by decide +kernel
theorem d_M_halve_49 : decode b_M_halve 49 = .ok (.iload_n 1, 1) := by decide +kernel
theorem d_M_halve_50 : decode b_M_halve 50 = .ok (.iadd, 1) := by decide +kernel
theorem d_M_halve_51 : decode b_M_halve 51 = .ok (.iaload, 1) := by decide +kernel
theorem d_M_halve_52 : decode b_M_halve 52 = .ok (.iadd, 1) := by decide +kernel
theorem d_M_halve_53 : decode b_M_halve 53 = .ok (.aload_n 0, 1) := by decide +kernel
theorem d_M_halve_54 : decode b_M_halve 54 = .ok (.iload 5, 2) := by decide +kernel
theorem d_M_halve_56 : decode b_M_halve 56 = .ok (.iload_n 1, 1) := by decide +kernel
theorem d_M_halve_57 : decode b_M_halve 57 = .ok (.iadd, 1) := by decide +kernel
theorem d_M_halve_58 : decode b_M_halve 58 = .ok (.iconst 1, 1) := by decide +kernel
theorem d_M_halve_59 : decode b_M_halve 59 = .ok (.iadd, 1) := by decide +kernel
theorem d_M_halve_60 : decode b_M_halve 60 = .ok (.iaload, 1) := by decide +kernel
theorem d_M_halve_61 : decode b_M_halve 61 = .ok (.iadd, 1) := by decide +kernel
theorem d_M_halve_62 : decode b_M_halve 62 = .ok (.iconst 2, 1) := by decide +kernel
theorem d_M_halve_63 : decode b_M_halve 63 = .ok (.iadd, 1) := by decide +kernel
theorem d_M_halve_64 : decode b_M_halve 64 = .ok (.iconst 4, 1) := by decide +kernel
theorem d_M_halve_65 : decode b_M_halve 65 = .ok (.idiv, 1) := by decide +kernel
theorem d_M_halve_66 : decode b_M_halve 66 = .ok (.iastore, 1) := by decide +kernel
theorem d_M_halve_67 : decode b_M_halve 67 = .ok (.iinc 4 1, 3) := by decide +kernel
theorem d_M_halve_70 : decode b_M_halve 70 = .ok (.goto (-63), 3) := by decide +kernel
theorem d_M_halve_73 : decode b_M_halve 73 = .ok (.return_, 1) := by decide +kernel
theorem d_M_layDomain_0 : decode b_M_layDomain 0 = .ok (.aload_n 0, 1) := by decide +kernel
theorem d_M_layDomain_1 : decode b_M_layDomain 1 = .ok (.iload_n 1, 1) := by decide +kernel
theorem d_M_layDomain_2 : decode b_M_layDomain 2 = .ok (.invokevirtual 69, 3) := by decide +kernel
theorem d_M_layDomain_5 : decode b_M_layDomain 5 = .ok (.istore 4, 2) := by decide +kernel
theorem d_M_layDomain_7 : decode b_M_layDomain 7 = .ok (.iconst 0, 1) := by decide +kernel
theorem d_M_layDomain_8 : decode b_M_layDomain 8 = .ok (.istore 5, 2) := by decide +kernel
theorem d_M_layDomain_10 : decode b_M_layDomain 10 = .ok (.iload 5, 2) := by decide +kernel
theorem d_M_layDomain_12 : decode b_M_layDomain 12 = .ok (.iload_n 1, 1) := by decide +kernel
theorem d_M_layDomain_13 : decode b_M_layDomain 13 = .ok (.iload_n 1, 1) := by decide +kernel
theorem d_M_layDomain_14 : decode b_M_layDomain 14 = .ok (.imul, 1) := by decide +kernel
theorem d_M_layDomain_15 : decode b_M_layDomain 15 = .ok (.if_icmp .ge 49, 3) := by decide +kernel
theorem d_M_layDomain_18 : decode b_M_layDomain 18 = .ok (.aload_n 0, 1) := by decide +kernel
theorem d_M_layDomain_19 : decode b_M_layDomain 19 = .ok (.getfield 37, 3) := by decide +kernel
theorem d_M_layDomain_22 : decode b_M_layDomain 22 = .ok (.iload 5, 2) := by decide +kernel
theorem d_M_layDomain_24 : decode b_M_layDomain 24 = .ok (.aload_n 0, 1) := by decide +kernel
theorem d_M_layDomain_25 : decode b_M_layDomain 25 = .ok (.getfield 13, 3) := by decide +kernel
theorem d_M_layDomain_28 : decode b_M_layDomain 28 = .ok (.aload_n 0, 1) := by decide +kernel
theorem d_M_layDomain_29 : decode b_M_layDomain 29 = .ok (.getfield 46, 3) := by decide +kernel
theorem d_M_layDomain_32 : decode b_M_layDomain 32 = .ok (.iconst 2, 1) := by decide +kernel
theorem d_M_layDomain_33 : decode b_M_layDomain 33 = .ok (.idiv, 1) := by decide +kernel
theorem d_M_layDomain_34 : decode b_M_layDomain 34 = .ok (.iload_n 1, 1) := by decide +kernel
theorem d_M_layDomain_35 : decode b_M_layDomain 35 = .ok (.iload_n 2, 1) := by decide +kernel
theorem d_M_layDomain_36 : decode b_M_layDomain 36 = .ok (.iload 4, 2) := by decide +kernel
theorem d_M_layDomain_38 : decode b_M_layDomain 38 = .ok (.irem, 1) := by decide +kernel
theorem d_M_layDomain_39 : decode b_M_layDomain 39 = .ok (.imul, 1) := by decide +kernel
theorem d_M_layDomain_40 : decode b_M_layDomain 40 = .ok (.iconst 2, 1) := by decide +kernel
theorem d_M_layDomain_41 : decode b_M_layDomain 41 = .ok (.idiv, 1) := by decide +kernel
theorem d_M_layDomain_42 : decode b_M_layDomain 42 = .ok (.iload_n 1, 1) := by decide +kernel
theorem d_M_layDomain_43 : decode b_M_layDomain 43 = .ok (.iload_n 2, 1) := by decide +kernel
theorem d_M_layDomain_44 : decode b_M_layDomain 44 = .ok (.iload 4, 2) := by decide +kernel
theorem d_M_layDomain_46 : decode b_M_layDomain 46 = .ok (.idiv, 1) := by decide +kernel
theorem d_M_layDomain_47 : decode b_M_layDomain 47 = .ok (.imul, 1) := by decide +kernel
theorem d_M_layDomain_48 : decode b_M_layDomain 48 = .ok (.iconst 2, 1) := by decide +kernel
theorem d_M_layDomain_49 : decode b_M_layDomain 49 = .ok (.idiv, 1) := by decide +kernel
theorem d_M_layDomain_50 : decode b_M_layDomain 50 = .ok (.iload_n 1, 1) := by decide +kernel
theorem d_M_layDomain_51 : decode b_M_layDomain 51 = .ok (.iload_n 3, 1) := by decide +kernel
theorem d_M_layDomain_52 : decode b_M_layDomain 52 = .ok (.iload 5, 2) := by decide +kernel
theorem d_M_layDomain_54 : decode b_M_layDomain 54 = .ok (.invokestatic 73, 3) := by decide +kernel
theorem d_M_layDomain_57 : decode b_M_layDomain 57 = .ok (.iastore, 1) := by decide +kernel
theorem d_M_layDomain_58 : decode b_M_layDomain 58 = .ok (.iinc 5 1, 3) := by decide +kernel
theorem d_M_layDomain_61 : decode b_M_layDomain 61 = .ok (.goto (-51), 3) := by decide +kernel
theorem d_M_layDomain_64 : decode b_M_layDomain 64 = .ok (.return_, 1) := by decide +kernel
theorem d_M_turned_0 : decode b_M_turned 0 = .ok (.iload 6, 2) := by decide +kernel
theorem d_M_turned_2 : decode b_M_turned 2 = .ok (.iload 4, 2) := by decide +kernel
theorem d_M_turned_4 : decode b_M_turned 4 = .ok (.irem, 1) := by decide +kernel
theorem d_M_turned_5 : decode b_M_turned 5 = .ok (.istore 7, 2) := by decide +kernel
theorem d_M_turned_7 : decode b_M_turned 7 = .ok (.iload 6, 2) := by decide +kernel
theorem d_M_turned_9 : decode b_M_turned 9 = .ok (.iload 4, 2) := by decide +kernel
theorem d_M_turned_11 : decode b_M_turned 11 = .ok (.idiv, 1) := by decide +kernel
theorem d_M_turned_12 : decode b_M_turned 12 = .ok (.istore 8, 2) := by decide +kernel
theorem d_M_turned_14 : decode b_M_turned 14 = .ok (.iconst 0, 1) := by decide +kernel
theorem d_M_turned_15 : decode b_M_turned 15 = .ok (.istore 9, 2) := by decide +kernel
theorem d_M_turned_17 : decode b_M_turned 17 = .ok (.iload 9, 2) := by decide +kernel
theorem d_M_turned_19 : decode b_M_turned 19 = .ok (.iload 5, 2) := by decide +kernel
theorem d_M_turned_21 : decode b_M_turned 21 = .ok (.iconst 4, 1) := by decide +kernel
theorem d_M_turned_22 : decode b_M_turned 22 = .ok (.irem, 1) := by decide +kernel
theorem d_M_turned_23 : decode b_M_turned 23 = .ok (.if_icmp .ge 26, 3) := by decide +kernel
theorem d_M_turned_26 : decode b_M_turned 26 = .ok (.iload 7, 2) := by decide +kernel
theorem d_M_turned_28 : decode b_M_turned 28 = .ok (.istore 10, 2) := by decide +kernel
theorem d_M_turned_30 : decode b_M_turned 30 = .ok (.iload 8, 2) := by decide +kernel
theorem d_M_turned_32 : decode b_M_turned 32 = .ok (.istore 7, 2) := by decide +kernel
theorem d_M_turned_34 : decode b_M_turned 34 = .ok (.iload 4, 2) := by decide +kernel
theorem d_M_turned_36 : decode b_M_turned 36 = .ok (.iconst 1, 1) := by decide +kernel
theorem d_M_turned_37 : decode b_M_turned 37 = .ok (.isub, 1) := by decide +kernel
theorem d_M_turned_38 : decode b_M_turned 38 = .ok (.iload 10, 2) := by decide +kernel
theorem d_M_turned_40 : decode b_M_turned 40 = .ok (.isub, 1) := by decide +kernel
theorem d_M_turned_41 : decode b_M_turned 41 = .ok (.istore 8, 2) := by decide +kernel
theorem d_M_turned_43 : decode b_M_turned 43 = .ok (.iinc 9 1, 3) := by decide +kernel
theorem d_M_turned_46 : decode b_M_turned 46 = .ok (.goto (-29), 3) := by decide +kernel
theorem d_M_turned_49 : decode b_M_turned 49 = .ok (.iload 5, 2) := by decide +kernel
theorem d_M_turned_51 : decode b_M_turned 51 = .ok (.iconst 3, 1) := by decide +kernel
theorem d_M_turned_52 : decode b_M_turned 52 = .ok (.if_icmp .le 13, 3) := by decide +kernel
theorem d_M_turned_55 : decode b_M_turned 55 = .ok (.iload 4, 2) := by decide +kernel
theorem d_M_turned_57 : decode b_M_turned 57 = .ok (.iconst 1, 1) := by decide +kernel
theorem d_M_turned_58 : decode b_M_turned 58 = .ok (.isub, 1) := by decide +kernel
theorem d_M_turned_59 : decode b_M_turned 59 = .ok (.iload 7, 2) := by decide +kernel
theorem d_M_turned_61 : decode b_M_turned 61 = .ok (.isub, 1) := by decide +kernel
theorem d_M_turned_62 : decode b_M_turned 62 = .ok (.goto 5, 3) := by decide +kernel
theorem d_M_turned_65 : decode b_M_turned 65 = .ok (.iload 7, 2) := by decide +kernel
theorem d_M_turned_67 : decode b_M_turned 67 = .ok (.istore 7, 2) := by decide +kernel
theorem d_M_turned_69 : decode b_M_turned 69 = .ok (.aload_n 0, 1) := by decide +kernel
