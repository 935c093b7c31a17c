theorem d_M_at_52 : decode b_M_at 52 = .ok (.aload_n 0, 1) := by decide +kernel
theorem d_M_at_53 : decode b_M_at 53 = .ok (.getfield 28, 3) := by decide +kernel
theorem d_M_at_56 : decode b_M_at 56 = .ok (.aload_n 0, 1) := by decide +kernel
theorem d_M_at_57 : decode b_M_at 57 = .ok (.getfield 185, 3) := by decide +kernel
theorem d_M_at_60 : decode b_M_at 60 = .ok (.iload_n 2, 1) := by decide +kernel
theorem d_M_at_61 : decode b_M_at 61 = .ok (.imul, 1) := by decide +kernel
theorem d_M_at_62 : decode b_M_at 62 = .ok (.iload_n 1, 1) := by decide +kernel
theorem d_M_at_63 : decode b_M_at 63 = .ok (.iadd, 1) := by decide +kernel
theorem d_M_at_64 : decode b_M_at 64 = .ok (.iaload, 1) := by decide +kernel
theorem d_M_at_65 : decode b_M_at 65 = .ok (.ireturn, 1) := by decide +kernel
theorem d_M_missed_0 : decode b_M_missed 0 = .ok (.aload_n 0, 1) := by decide +kernel
theorem d_M_missed_1 : decode b_M_missed 1 = .ok (.aload_n 0, 1) := by decide +kernel
theorem d_M_missed_2 : decode b_M_missed 2 = .ok (.getfield 185, 3) := by decide +kernel
theorem d_M_missed_5 : decode b_M_missed 5 = .ok (.aload_n 0, 1) := by decide +kernel
theorem d_M_missed_6 : decode b_M_missed 6 = .ok (.getfield 46, 3) := by decide +kernel
theorem d_M_missed_9 : decode b_M_missed 9 = .ok (.if_icmp .ne 7, 3) := by decide +kernel
theorem d_M_missed_12 : decode b_M_missed 12 = .ok (.iconst 0, 1) := by decide +kernel
theorem d_M_missed_13 : decode b_M_missed 13 = .ok (.goto 4, 3) := by decide +kernel
theorem d_M_missed_16 : decode b_M_missed 16 = .ok (.iconst 1, 1) := by decide +kernel
theorem d_M_missed_17 : decode b_M_missed 17 = .ok (.putfield 50, 3) := by decide +kernel
theorem d_M_missed_20 : decode b_M_missed 20 = .ok (.lconst 0, 1) := by decide +kernel
theorem d_M_missed_21 : decode b_M_missed 21 = .ok (.lstore_n 1, 1) := by decide +kernel
theorem d_M_missed_22 : decode b_M_missed 22 = .ok (.iconst 0, 1) := by decide +kernel
theorem d_M_missed_23 : decode b_M_missed 23 = .ok (.istore_n 3, 1) := by decide +kernel
theorem d_M_missed_24 : decode b_M_missed 24 = .ok (.iload_n 3, 1) := by decide +kernel
theorem d_M_missed_25 : decode b_M_missed 25 = .ok (.aload_n 0, 1) := by decide +kernel
theorem d_M_missed_26 : decode b_M_missed 26 = .ok (.getfield 46, 3) := by decide +kernel
theorem d_M_missed_29 : decode b_M_missed 29 = .ok (.aload_n 0, 1) := by decide +kernel
theorem d_M_missed_30 : decode b_M_missed 30 = .ok (.getfield 46, 3) := by decide +kernel
theorem d_M_missed_33 : decode b_M_missed 33 = .ok (.imul, 1) := by decide +kernel
theorem d_M_missed_34 : decode b_M_missed 34 = .ok (.if_icmp .ge 40, 3) := by decide +kernel
theorem d_M_missed_37 : decode b_M_missed 37 = .ok (.aload_n 0, 1) := by decide +kernel
theorem d_M_missed_38 : decode b_M_missed 38 = .ok (.getfield 50, 3) := by decide +kernel
theorem d_M_missed_41 : decode b_M_missed 41 = .ok (.ifCond .ne 33, 3) := by decide +kernel
theorem d_M_missed_44 : decode b_M_missed 44 = .ok (.aload_n 0, 1) := by decide +kernel
theorem d_M_missed_45 : decode b_M_missed 45 = .ok (.getfield 7, 3) := by decide +kernel
theorem d_M_missed_48 : decode b_M_missed 48 = .ok (.iload_n 3, 1) := by decide +kernel
theorem d_M_missed_49 : decode b_M_missed 49 = .ok (.iaload, 1) := by decide +kernel
theorem d_M_missed_50 : decode b_M_missed 50 = .ok (.aload_n 0, 1) := by decide +kernel
theorem d_M_missed_51 : decode b_M_missed 51 = .ok (.getfield 28, 3) := by decide +kernel
theorem d_M_missed_54 : decode b_M_missed 54 = .ok (.iload_n 3, 1) := by decide +kernel
theorem d_M_missed_55 : decode b_M_missed 55 = .ok (.iaload, 1) := by decide +kernel
theorem d_M_missed_56 : decode b_M_missed 56 = .ok (.isub, 1) := by decide +kernel
theorem d_M_missed_57 : decode b_M_missed 57 = .ok (.i2l, 1) := by decide +kernel
theorem d_M_missed_58 : decode b_M_missed 58 = .ok (.lstore 4, 2) := by decide +kernel
theorem d_M_missed_60 : decode b_M_missed 60 = .ok (.lload_n 1, 1) := by decide +kernel
theorem d_M_missed_61 : decode b_M_missed 61 = .ok (.lload 4, 2) := by decide +kernel
theorem d_M_missed_63 : decode b_M_missed 63 = .ok (.lload 4, 2) := by decide +kernel
theorem d_M_missed_65 : decode b_M_missed 65 = .ok (.lmul, 1) := by decide +kernel
theorem d_M_missed_66 : decode b_M_missed 66 = .ok (.ladd, 1) := by decide +kernel
theorem d_M_missed_67 : decode b_M_missed 67 = .ok (.lstore_n 1, 1) := by decide +kernel
theorem d_M_missed_68 : decode b_M_missed 68 = .ok (.iinc 3 1, 3) := by decide +kernel
theorem d_M_missed_71 : decode b_M_missed 71 = .ok (.goto (-47), 3) := by decide +kernel
theorem d_M_missed_74 : decode b_M_missed 74 = .ok (.lload_n 1, 1) := by decide +kernel
theorem d_M_missed_75 : decode b_M_missed 75 = .ok (.lreturn, 1) := by decide +kernel
theorem d_M_kind_0 : decode b_M_kind 0 = .ok (.aload_n 0, 1) := by decide +kernel
theorem d_M_kind_1 : decode b_M_kind 1 = .ok (.iload_n 3, 1) := by decide +kernel
theorem d_M_kind_2 : decode b_M_kind 2 = .ok (.invokestatic 129, 3) := by decide +kernel
theorem d_M_kind_5 : decode b_M_kind 5 = .ok (.ifCond .ne 7, 3) := by decide +kernel
theorem d_M_kind_8 : decode b_M_kind 8 = .ok (.iconst 1, 1) := by decide +kernel
theorem d_M_kind_9 : decode b_M_kind 9 = .ok (.goto 40, 3) := by decide +kernel
theorem d_M_kind_12 : decode b_M_kind 12 = .ok (.iload_n 1, 1) := by decide +kernel
theorem d_M_kind_13 : decode b_M_kind 13 = .ok (.i2l, 1) := by decide +kernel
theorem d_M_kind_14 : decode b_M_kind 14 = .ok (.lconst 0, 1) := by decide +kernel
theorem d_M_kind_15 : decode b_M_kind 15 = .ok (.aload_n 0, 1) := by decide +kernel
theorem d_M_kind_16 : decode b_M_kind 16 = .ok (.getfield 46, 3) := by decide +kernel
theorem d_M_kind_19 : decode b_M_kind 19 = .ok (.iload_n 3, 1) := by decide +kernel
theorem d_M_kind_20 : decode b_M_kind 20 = .ok (.isub, 1) := by decide +kernel
theorem d_M_kind_21 : decode b_M_kind 21 = .ok (.i2l, 1) := by decide +kernel
theorem d_M_kind_22 : decode b_M_kind 22 = .ok (.invokestatic 55, 3) := by decide +kernel
theorem d_M_kind_25 : decode b_M_kind 25 = .ok (.ifCond .eq 19, 3) := by decide +kernel
theorem d_M_kind_28 : decode b_M_kind 28 = .ok (.iload_n 2, 1) := by decide +kernel
theorem d_M_kind_29 : decode b_M_kind 29 = .ok (.i2l, 1) := by decide +kernel
theorem d_M_kind_30 : decode b_M_kind 30 = .ok (.lconst 0, 1) := by decide +kernel
theorem d_M_kind_31 : decode b_M_kind 31 = .ok (.aload_n 0, 1) := by decide +kernel
theorem d_M_kind_32 : decode b_M_kind 32 = .ok (.getfield 46, 3) := by decide +kernel
theorem d_M_kind_35 : decode b_M_kind 35 = .ok (.iload_n 3, 1) := by decide +kernel
theorem d_M_kind_36 : decode b_M_kind 36 = .ok (.isub, 1) := by decide +kernel
theorem d_M_kind_37 : decode b_M_kind 37 = .ok (.i2l, 1) := by decide +kernel
theorem d_M_kind_38 : decode b_M_kind 38 = .ok (.invokestatic 55, 3) := by decide +kernel
theorem d_M_kind_41 : decode b_M_kind 41 = .ok (.ifCond .ne 7, 3) := by decide +kernel
theorem d_M_kind_44 : decode b_M_kind 44 = .ok (.iconst 2, 1) := by decide +kernel
theorem d_M_kind_45 : decode b_M_kind 45 = .ok (.goto 4, 3) := by decide +kernel
theorem d_M_kind_48 : decode b_M_kind 48 = .ok (.iconst 0, 1) := by decide +kernel
theorem d_M_kind_49 : decode b_M_kind 49 = .ok (.putfield 50, 3) := by decide +kernel
theorem d_M_kind_52 : decode b_M_kind 52 = .ok (.aload_n 0, 1) := by decide +kernel
theorem d_M_kind_53 : decode b_M_kind 53 = .ok (.getfield 50, 3) := by decide +kernel
theorem d_M_kind_56 : decode b_M_kind 56 = .ok (.ifCond .le 5, 3) := by decide +kernel
theorem d_M_kind_59 : decode b_M_kind 59 = .ok (.iconst 0, 1) := by decide +kernel
theorem d_M_kind_60 : decode b_M_kind 60 = .ok (.ireturn, 1) := by decide +kernel
theorem d_M_kind_61 : decode b_M_kind 61 = .ok (.aload_n 0, 1) := by decide +kernel
theorem d_M_kind_62 : decode b_M_kind 62 = .ok (.iload_n 1, 1) := by decide +kernel
theorem d_M_kind_63 : decode b_M_kind 63 = .ok (.iload_n 2, 1) := by decide +kernel
theorem d_M_kind_64 : decode b_M_kind 64 = .ok (.iload_n 3, 1) := by decide +kernel
theorem d_M_kind_65 : decode b_M_kind 65 = .ok (.invokevirtual 95, 3) := by decide +kernel
theorem d_M_kind_68 : decode b_M_kind 68 = .ok (.aload_n 0, 1) := by decide +kernel
theorem d_M_kind_69 : decode b_M_kind 69 = .ok (.getfield 40, 3) := by decide +kernel
theorem d_M_kind_72 : decode b_M_kind 72 = .ok (.iload_n 3, 1) := by decide +kernel
theorem d_M_kind_73 : decode b_M_kind 73 = .ok (.invokestatic 99, 3) := by decide +kernel
theorem d_M_kind_76 : decode b_M_kind 76 = .ok (.ireturn, 1) := by decide +kernel
theorem d_M_isSize_0 : decode b_M_isSize 0 = .ok (.iload_n 0, 1) := by decide +kernel
theorem d_M_isSize_1 : decode b_M_isSize 1 = .ok (.iconst 2, 1) := by decide +kernel
theorem d_M_isSize_2 : decode b_M_isSize 2 = .ok (.if_icmp .eq 20, 3) := by decide +kernel
theorem d_M_isSize_5 : decode b_M_isSize 5 = .ok (.iload_n 0, 1) := by decide +kernel
theorem d_M_isSize_6 : decode b_M_isSize 6 = .ok (.iconst 4, 1) := by decide +kernel
theorem d_M_isSize_7 : decode b_M_isSize 7 = .ok (.if_icmp .eq 15, 3) := by decide +kernel
theorem d_M_isSize_10 : decode b_M_isSize 10 = .ok (.iload_n 0, 1) := by decide +kernel
theorem d_M_isSize_11 : decode b_M_isSize 11 = .ok (.bipush 8, 2) := by decide +kernel
theorem d_M_isSize_13 : decode b_M_isSize 13 = .ok (.if_icmp .eq 9, 3) := by decide +kernel
theorem d_M_isSize_16 : decode b_M_isSize 16 = .ok (.iload_n 0, 1) := by decide +kernel
theorem d_M_isSize_17 : decode b_M_isSize 17 = .ok (.bipush 16, 2) := by decide +kernel
theorem d_M_isSize_19 : decode b_M_isSize 19 = .ok (.if_icmp .ne 7, 3) := by decide +kernel
theorem d_M_isSize_22 : decode b_M_isSize 22 = .ok (.iconst 1, 1) := by decide +kernel
theorem d_M_isSize_23 : decode b_M_isSize 23 = .ok (.goto 4, 3) := by decide +kernel
theorem d_M_isSize_26 : decode b_M_isSize 26 = .ok (.iconst 0, 1) := by decide +kernel
theorem d_M_isSize_27 : decode b_M_isSize 27 = .ok (.ireturn, 1) := by decide +kernel
theorem d_M_layBlock_0 : decode b_M_layBlock 0 = .ok (.iconst 0, 1) := by decide +kernel
theorem d_M_layBlock_1 : decode b_M_layBlock 1 = .ok (.istore 4, 2) := by decide +kernel
theorem d_M_layBlock_3 : decode b_M_layBlock 3 = .ok (.iload 4, 2) := by decide +kernel
theorem d_M_layBlock_5 : decode b_M_layBlock 5 = .ok (.iload_n 3, 1) := by decide +kernel
theorem d_M_layBlock_6 : decode b_M_layBlock 6 = .ok (.iload_n 3, 1) := by decide +kernel
theorem d_M_layBlock_7 : decode b_M_layBlock 7 = .ok (.imul, 1) := by decide +kernel
theorem d_M_layBlock_8 : decode b_M_layBlock 8 = .ok (.if_icmp .ge 39, 3) := by decide +kernel
theorem d_M_layBlock_11 : decode b_M_layBlock 11 = .ok (.aload_n 0, 1) := by decide +kernel
theorem d_M_layBlock_12 : decode b_M_layBlock 12 = .ok (.getfield 40, 3) := by decide +kernel
theorem d_M_layBlock_15 : decode b_M_layBlock 15 = .ok (.iload 4, 2) := by decide +kernel
theorem d_M_layBlock_17 : decode b_M_layBlock 17 = .ok (.aload_n 0, 1) := by decide +kernel
theorem d_M_layBlock_18 : decode b_M_layBlock 18 = .ok (.getfield 7, 3) := by decide +kernel
theorem d_M_layBlock_21 : decode b_M_layBlock 21 = .ok (.iload_n 2, 1) := by decide +kernel
theorem d_M_layBlock_22 : decode b_M_layBlock 22 = .ok (.iload 4, 2) := by decide +kernel
theorem d_M_layBlock_24 : decode b_M_layBlock 24 = .ok (.iload_n 3, 1) := by decide +kernel
theorem d_M_layBlock_25 : decode b_M_layBlock 25 = .ok (.idiv, 1) := by decide +kernel
theorem d_M_layBlock_26 : decode b_M_layBlock 26 = .ok (.iadd, 1) := by decide +kernel
theorem d_M_layBlock_27 : decode b_M_layBlock 27 = .ok (.aload_n 0, 1) := by decide +kernel
theorem d_M_layBlock_28 : decode b_M_layBlock 28 = .ok (.getfield 46, 3) := by decide +kernel
theorem d_M_layBlock_31 : decode b_M_layBlock 31 = .ok (.imul, 1) := by decide +kernel
theorem d_M_layBlock_32 : decode b_M_layBlock 32 = .ok (.iload_n 1, 1) := by decide +kernel
theorem d_M_layBlock_33 : decode b_M_layBlock 33 = .ok (.iadd, 1) := by decide +kernel
theorem d_M_layBlock_34 : decode b_M_layBlock 34 = .ok (.iload 4, 2) := by decide +kernel
theorem d_M_layBlock_36 : decode b_M_layBlock 36 = .ok (.iload_n 3, 1) := by decide +kernel
theorem d_M_layBlock_37 : decode b_M_layBlock 37 = .ok (.irem, 1) := by decide +kernel
theorem d_M_layBlock_38 : decode b_M_layBlock 38 = .ok (.iadd, 1) := by decide +kernel
theorem d_M_layBlock_39 : decode b_M_layBlock 39 = .ok (.iaload, 1) := by decide +kernel
theorem d_M_layBlock_40 : decode b_M_layBlock 40 = .ok (.iastore, 1) := by decide +kernel
theorem d_M_layBlock_41 : decode b_M_layBlock 41 = .ok (.iinc 4 1, 3) := by decide +kernel
theorem d_M_layBlock_44 : decode b_M_layBlock 44 = .ok (.goto (-41), 3) := by decide +kernel
theorem d_M_layBlock_47 : decode b_M_layBlock 47 = .ok (.return_, 1) := by decide +kernel
theorem d_M_classOf_0 : decode b_M_classOf 0 = .ok (.iconst 3, 1) := by decide +kernel
theorem d_M_classOf_1 : decode b_M_classOf 1 = .ok (.istore_n 2, 1) := by decide +kernel
theorem d_M_classOf_2 : decode b_M_classOf 2 = .ok (.iconst 2, 1) := by decide +kernel
theorem d_M_classOf_3 : decode b_M_classOf 3 = .ok (.istore_n 3, 1) := by decide +kernel
theorem d_M_classOf_4 : decode b_M_classOf 4 = .ok (.iload_n 3, 1) := by decide +kernel
theorem d_M_classOf_5 : decode b_M_classOf 5 = .ok (.ifCond .lt 30, 3) := by decide +kernel
theorem d_M_classOf_8 : decode b_M_classOf 8 = .ok (.aload_n 0, 1) := by decide +kernel
theorem d_M_classOf_9 : decode b_M_classOf 9 = .ok (.iload_n 1, 1) := by decide +kernel
theorem d_M_classOf_10 : decode b_M_classOf 10 = .ok (.iload_n 3, 1) := by decide +kernel
theorem d_M_classOf_11 : decode b_M_classOf 11 = .ok (.invokestatic 77, 3) := by decide +kernel
theorem d_M_classOf_14 : decode b_M_classOf 14 = .ok (.aload_n 0, 1) := by decide +kernel
theorem d_M_classOf_15 : decode b_M_classOf 15 = .ok (.iload_n 1, 1) := by decide +kernel
theorem d_M_classOf_16 : decode b_M_classOf 16 = .ok (.iload_n 2, 1) := by decide +kernel
theorem d_M_classOf_17 : decode b_M_classOf 17 = .ok (.invokestatic 77, 3) := by decide +kernel
theorem d_M_classOf_20 : decode b_M_classOf 20 = .ok (.if_icmp .lt 7, 3) := by decide +kernel
theorem d_M_classOf_23 : decode b_M_classOf 23 = .ok (.iload_n 3, 1) := by decide +kernel
theorem d_M_classOf_24 : decode b_M_classOf 24 = .ok (.goto 4, 3) := by decide +kernel
theorem d_M_classOf_27 : decode b_M_classOf 27 = .ok (.iload_n 2, 1) := by decide +kernel
theorem d_M_classOf_28 : decode b_M_classOf 28 = .ok (.istore_n 2, 1) := by decide +kernel
theorem d_M_classOf_29 : decode b_M_classOf 29 = .ok (.iinc 3 (-1), 3) := by decide +kernel
theorem d_M_classOf_32 : decode b_M_classOf 32 = .ok (.goto (-28), 3) := by decide +kernel
theorem d_M_classOf_35 : decode b_M_classOf 35 = .ok (.iload_n 2, 1) := by decide +kernel
theorem d_M_classOf_36 : decode b_M_classOf 36 = .ok (.ireturn, 1) := by decide +kernel
theorem d_M_quarterSum_0 : decode b_M_quarterSum 0 = .ok (.iconst 0, 1) := by decide +kernel
theorem d_M_quarterSum_1 : decode b_M_quarterSum 1 = .ok (.istore_n 3, 1) := by decide +kernel
theorem d_M_quarterSum_2 : decode b_M_quarterSum 2 = .ok (.iconst 0, 1) := by decide +kernel
theorem d_M_quarterSum_3 : decode b_M_quarterSum 3 = .ok (.istore 4, 2) := by decide +kernel
theorem d_M_quarterSum_5 : decode b_M_quarterSum 5 = .ok (.iload 4, 2) := by decide +kernel
theorem d_M_quarterSum_7 : decode b_M_quarterSum 7 = .ok (.iload_n 1, 1) := by decide +kernel
theorem d_M_quarterSum_8 : decode b_M_quarterSum 8 = .ok (.iload_n 1, 1) := by decide +kernel
theorem d_M_quarterSum_9 : decode b_M_quarterSum 9 = .ok (.imul, 1) := by decide +kernel
theorem d_M_quarterSum_10 : decode b_M_quarterSum 10 = .ok (.if_icmp .ge 59, 3) := by decide +kernel
theorem d_M_quarterSum_13 : decode b_M_quarterSum 13 = .ok (.iload 4, 2) := by decide +kernel
theorem d_M_quarterSum_15 : decode b_M_quarterSum 15 = .ok (.iload_n 1, 1) := by decide +kernel
theorem d_M_quarterSum_16 : decode b_M_quarterSum 16 = .ok (.idiv, 1) := by decide +kernel
theorem d_M_quarterSum_17 : decode b_M_quarterSum 17 = .ok (.iload_n 1, 1) := by decide +kernel
theorem d_M_quarterSum_18 : decode b_M_quarterSum 18 = .ok (.iconst 2, 1) := by decide +kernel
theorem d_M_quarterSum_19 : decode b_M_quarterSum 19 = .ok (.idiv, 1) := by decide +kernel
theorem d_M_quarterSum_20 : decode b_M_quarterSum 20 = .ok (.if_icmp .ge 7, 3) := by decide +kernel
theorem d_M_quarterSum_23 : decode b_M_quarterSum 23 = .ok (.iconst 0, 1) := by decide +kernel
theorem d_M_quarterSum_24 : decode b_M_quarterSum 24 = .ok (.goto 4, 3) := by decide +kernel
theorem d_M_quarterSum_27 : decode b_M_quarterSum 27 = .ok (.iconst 2, 1) := by decide +kernel
theorem d_M_quarterSum_28 : decode b_M_quarterSum 28 = .ok (.iload 4, 2) := by decide +kernel
theorem d_M_quarterSum_30 : decode b_M_quarterSum 30 = .ok (.iload_n 1, 1) := by decide +kernel
theorem d_M_quarterSum_31 : decode b_M_quarterSum 31 = .ok (.irem, 1) := by decide +kernel
theorem d_M_quarterSum_32 : decode b_M_quarterSum 32 = .ok (.iload_n 1, 1) := by decide +kernel
theorem d_M_quarterSum_33 : decode b_M_quarterSum 33 = .ok (.iconst 2, 1) := by decide +kernel
theorem d_M_quarterSum_34 : decode b_M_quarterSum 34 = .ok (.idiv, 1) := by decide +kernel
theorem d_M_quarterSum_35 : decode b_M_quarterSum 35 = .ok (.if_icmp .ge 7, 3) := by decide +kernel
theorem d_M_quarterSum_38 : decode b_M_quarterSum 38 = .ok (.iconst 0, 1) := by decide +kernel
theorem d_M_quarterSum_39 : decode b_M_quarterSum 39 = .ok (.goto 4, 3) := by decide +kernel
theorem d_M_quarterSum_42 : decode b_M_quarterSum 42 = .ok (.iconst 1, 1) := by decide +kernel
theorem d_M_quarterSum_43 : decode b_M_quarterSum 43 = .ok (.iadd, 1) := by decide +kernel
theorem d_M_quarterSum_44 : decode b_M_quarterSum 44 = .ok (.istore 5, 2) := by decide +kernel
theorem d_M_quarterSum_46 : decode b_M_quarterSum 46 = .ok (.iload_n 3, 1) := by decide +kernel
theorem d_M_quarterSum_47 : decode b_M_quarterSum 47 = .ok (.iload 5, 2) := by decide +kernel
theorem d_M_quarterSum_49 : decode b_M_quarterSum 49 = .ok (.iload_n 2, 1) := by decide +kernel
theorem d_M_quarterSum_50 : decode b_M_quarterSum 50 = .ok (.if_icmp .ne 10, 3) := by decide +kernel
theorem d_M_quarterSum_53 : decode b_M_quarterSum 53 = .ok (.aload_n 0, 1) := by decide +kernel
theorem d_M_quarterSum_54 : decode b_M_quarterSum 54 = .ok (.iload 4, 2) := by decide +kernel
theorem d_M_quarterSum_56 : decode b_M_quarterSum 56 = .ok (.iaload, 1) := by decide +kernel
theorem d_M_quarterSum_57 : decode b_M_quarterSum 57 = .ok (.goto 4, 3) := by decide +kernel
theorem d_M_quarterSum_60 : decode b_M_quarterSum 60 = .ok (.iconst 0, 1) := by decide +kernel
theorem d_M_quarterSum_61 : decode b_M_quarterSum 61 = .ok (.iadd, 1) := by decide +kernel
theorem d_M_quarterSum_62 : decode b_M_quarterSum 62 = .ok (.istore_n 3, 1) := by decide +kernel
theorem d_M_quarterSum_63 : decode b_M_quarterSum 63 = .ok (.iinc 4 1, 3) := by decide +kernel
theorem d_M_quarterSum_66 : decode b_M_quarterSum 66 = .ok (.goto (-61), 3) := by decide +kernel
theorem d_M_quarterSum_69 : decode b_M_quarterSum 69 = .ok (.iload_n 3, 1) := by decide +kernel
theorem d_M_quarterSum_70 : decode b_M_quarterSum 70 = .ok (.ireturn, 1) := by decide +kernel
theorem d_M_tried_0 : decode b_M_tried 0 = .ok (.aload_n 0, 1) := by decide +kernel
theorem d_M_tried_1 : decode b_M_tried 1 = .ok (.iconst 0, 1) := by decide +kernel
theorem d_M_tried_2 : decode b_M_tried 2 = .ok (.putfield 50, 3) := by decide +kernel
theorem d_M_tried_5 : decode b_M_tried 5 = .ok (.aload_n 0, 1) := by decide +kernel
theorem d_M_tried_6 : decode b_M_tried 6 = .ok (.getfield 108, 3) := by decide +kernel
theorem d_M_tried_9 : decode b_M_tried 9 = .ok (.ireturn, 1) := by decide +kernel
theorem d_M_told_0 : decode b_M_told 0 = .ok (.aload_n 0, 1) := by decide +kernel
theorem d_M_told_1 : decode b_M_told 1 = .ok (.iconst 0, 1) := by decide +kernel
theorem d_M_told_2 : decode b_M_told 2 = .ok (.putfield 50, 3) := by decide +kernel
theorem d_M_told_5 : decode b_M_told 5 = .ok (.iload_n 1, 1) := by decide +kernel
theorem d_M_told_6 : decode b_M_told 6 = .ok (.tableswitch 59 0 4 #[34, 39, 44, 49, 54], 34) := by decide +kernel
theorem d_M_told_40 : decode b_M_told 40 = .ok (.aload_n 0, 1) := by decide +kernel
theorem d_M_told_41 : decode b_M_told 41 = .ok (.getfield 46, 3) := by decide +kernel
theorem d_M_told_44 : decode b_M_told 44 = .ok (.ireturn, 1) := by decide +kernel
theorem d_M_told_45 : decode b_M_told 45 = .ok (.aload_n 0, 1) := by decide +kernel
theorem d_M_told_46 : decode b_M_told 46 = .ok (.getfield 123, 3) := by decide +kernel
theorem d_M_told_49 : decode b_M_told 49 = .ok (.ireturn, 1) := by decide +kernel
theorem d_M_told_50 : decode b_M_told 50 = .ok (.aload_n 0, 1) := by decide +kernel
theorem d_M_told_51 : decode b_M_told 51 = .ok (.invokevirtual 159, 3) := by decide +kernel
theorem d_M_told_54 : decode b_M_told 54 = .ok (.ireturn, 1) := by decide +kernel
theorem d_M_told_55 : decode b_M_told 55 = .ok (.aload_n 0, 1) := by decide +kernel
theorem d_M_told_56 : decode b_M_told 56 = .ok (.getfield 163, 3) := by decide +kernel
theorem d_M_told_59 : decode b_M_told 59 = .ok (.ireturn, 1) := by decide +kernel
theorem d_M_told_60 : decode b_M_told 60 = .ok (.aload_n 0, 1) := by decide +kernel
theorem d_M_told_61 : decode b_M_told 61 = .ok (.getfield 185, 3) := by decide +kernel
theorem d_M_told_64 : decode b_M_told 64 = .ok (.ireturn, 1) := by decide +kernel
theorem d_M_told_65 : decode b_M_told 65 = .ok (.iconst (-1), 1) := by decide +kernel
theorem d_M_told_66 : decode b_M_told 66 = .ok (.ireturn, 1) := by decide +kernel
theorem d_M_clear_0 : decode b_M_clear 0 = .ok (.aload_n 0, 1) := by decide +kernel
theorem d_M_clear_1 : decode b_M_clear 1 = .ok (.iconst 0, 1) := by decide +kernel
theorem d_M_clear_2 : decode b_M_clear 2 = .ok (.putfield 50, 3) := by decide +kernel
theorem d_M_clear_5 : decode b_M_clear 5 = .ok (.iconst 0, 1) := by decide +kernel
theorem d_M_clear_6 : decode b_M_clear 6 = .ok (.istore_n 1, 1) := by decide +kernel
theorem d_M_clear_7 : decode b_M_clear 7 = .ok (.iload_n 1, 1) := by decide +kernel
