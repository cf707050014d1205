theorem dX0_init_0 : decode cX0_init 0 = .ok (.aload_n 0, 1) := by decide +kernel
theorem dX0_init_1 : decode cX0_init 1 = .ok (.invokespecial 1, 3) := by decide +kernel
theorem dX0_init_4 : decode cX0_init 4 = .ok (.aload_n 0, 1) := by decide +kernel
theorem dX0_init_5 : decode cX0_init 5 = .ok (.new 7, 3) := by decide +kernel
theorem dX0_init_8 : decode cX0_init 8 = .ok (.dup, 1) := by decide +kernel
theorem dX0_init_9 : decode cX0_init 9 = .ok (.invokespecial 9, 3) := by decide +kernel
theorem dX0_init_12 : decode cX0_init 12 = .ok (.putfield 10, 3) := by decide +kernel
theorem dX0_init_15 : decode cX0_init 15 = .ok (.return_, 1) := by decide +kernel
theorem dX0_readAll_0 : decode cX0_readAll 0 = .ok (.aload_n 0, 1) := by decide +kernel
theorem dX0_readAll_1 : decode cX0_readAll 1 = .ok (.getfield 10, 3) := by decide +kernel
theorem dX0_readAll_4 : decode cX0_readAll 4 = .ok (.invokevirtual 16, 3) := by decide +kernel
theorem dX0_readAll_7 : decode cX0_readAll 7 = .ok (.iconst 1, 1) := by decide +kernel
theorem dX0_readAll_8 : decode cX0_readAll 8 = .ok (.istore_n 2, 1) := by decide +kernel
theorem dX0_readAll_9 : decode cX0_readAll 9 = .ok (.iload_n 2, 1) := by decide +kernel
theorem dX0_readAll_10 : decode cX0_readAll 10 = .ok (.bipush 120, 2) := by decide +kernel
theorem dX0_readAll_12 : decode cX0_readAll 12 = .ok (.if_icmp .gt 53, 3) := by decide +kernel
theorem dX0_readAll_15 : decode cX0_readAll 15 = .ok (.aload_n 0, 1) := by decide +kernel
theorem dX0_readAll_16 : decode cX0_readAll 16 = .ok (.aload_n 1, 1) := by decide +kernel
theorem dX0_readAll_17 : decode cX0_readAll 17 = .ok (.invokevirtual 19, 3) := by decide +kernel
theorem dX0_readAll_20 : decode cX0_readAll 20 = .ok (.ifCond .ne 6, 3) := by decide +kernel
theorem dX0_readAll_23 : decode cX0_readAll 23 = .ok (.goto 42, 3) := by decide +kernel
theorem dX0_readAll_26 : decode cX0_readAll 26 = .ok (.aload_n 0, 1) := by decide +kernel
theorem dX0_readAll_27 : decode cX0_readAll 27 = .ok (.getfield 10, 3) := by decide +kernel
theorem dX0_readAll_30 : decode cX0_readAll 30 = .ok (.getfield 23, 3) := by decide +kernel
theorem dX0_readAll_33 : decode cX0_readAll 33 = .ok (.ifCond .ne 5, 3) := by decide +kernel
theorem dX0_readAll_36 : decode cX0_readAll 36 = .ok (.iload_n 2, 1) := by decide +kernel
theorem dX0_readAll_37 : decode cX0_readAll 37 = .ok (.ireturn, 1) := by decide +kernel
theorem dX0_readAll_38 : decode cX0_readAll 38 = .ok (.aload_n 0, 1) := by decide +kernel
theorem dX0_readAll_39 : decode cX0_readAll 39 = .ok (.getfield 10, 3) := by decide +kernel
theorem dX0_readAll_42 : decode cX0_readAll 42 = .ok (.getfield 23, 3) := by decide +kernel
theorem dX0_readAll_45 : decode cX0_readAll 45 = .ok (.iconst 3, 1) := by decide +kernel
theorem dX0_readAll_46 : decode cX0_readAll 46 = .ok (.if_icmp .eq 6, 3) := by decide +kernel
theorem dX0_readAll_49 : decode cX0_readAll 49 = .ok (.goto 16, 3) := by decide +kernel
theorem dX0_readAll_52 : decode cX0_readAll 52 = .ok (.aload_n 0, 1) := by decide +kernel
theorem dX0_readAll_53 : decode cX0_readAll 53 = .ok (.getfield 10, 3) := by decide +kernel
theorem dX0_readAll_56 : decode cX0_readAll 56 = .ok (.invokevirtual 27, 3) := by decide +kernel
theorem dX0_readAll_59 : decode cX0_readAll 59 = .ok (.iinc 2 1, 3) := by decide +kernel
theorem dX0_readAll_62 : decode cX0_readAll 62 = .ok (.goto (-53), 3) := by decide +kernel
theorem dX0_readAll_65 : decode cX0_readAll 65 = .ok (.iconst (-1), 1) := by decide +kernel
theorem dX0_readAll_66 : decode cX0_readAll 66 = .ok (.aload_n 0, 1) := by decide +kernel
theorem dX0_readAll_67 : decode cX0_readAll 67 = .ok (.getfield 10, 3) := by decide +kernel
theorem dX0_readAll_70 : decode cX0_readAll 70 = .ok (.getfield 30, 3) := by decide +kernel
theorem dX0_readAll_73 : decode cX0_readAll 73 = .ok (.isub, 1) := by decide +kernel
theorem dX0_readAll_74 : decode cX0_readAll 74 = .ok (.ireturn, 1) := by decide +kernel
theorem dX0_readItem_0 : decode cX0_readItem 0 = .ok (.aload_n 0, 1) := by decide +kernel
theorem dX0_readItem_1 : decode cX0_readItem 1 = .ok (.getfield 10, 3) := by decide +kernel
theorem dX0_readItem_4 : decode cX0_readItem 4 = .ok (.ldc 33, 2) := by decide +kernel
theorem dX0_readItem_6 : decode cX0_readItem 6 = .ok (.invokevirtual 35, 3) := by decide +kernel
theorem dX0_readItem_9 : decode cX0_readItem 9 = .ok (.ifCond .eq 9, 3) := by decide +kernel
theorem dX0_readItem_12 : decode cX0_readItem 12 = .ok (.aload_n 0, 1) := by decide +kernel
theorem dX0_readItem_13 : decode cX0_readItem 13 = .ok (.aload_n 1, 1) := by decide +kernel
theorem dX0_readItem_14 : decode cX0_readItem 14 = .ok (.invokevirtual 39, 3) := by decide +kernel
theorem dX0_readItem_17 : decode cX0_readItem 17 = .ok (.ireturn, 1) := by decide +kernel
theorem dX0_readItem_18 : decode cX0_readItem 18 = .ok (.aload_n 0, 1) := by decide +kernel
theorem dX0_readItem_19 : decode cX0_readItem 19 = .ok (.getfield 10, 3) := by decide +kernel
theorem dX0_readItem_22 : decode cX0_readItem 22 = .ok (.ldc 42, 2) := by decide +kernel
theorem dX0_readItem_24 : decode cX0_readItem 24 = .ok (.invokevirtual 35, 3) := by decide +kernel
theorem dX0_readItem_27 : decode cX0_readItem 27 = .ok (.ifCond .eq 9, 3) := by decide +kernel
theorem dX0_readItem_30 : decode cX0_readItem 30 = .ok (.aload_n 0, 1) := by decide +kernel
theorem dX0_readItem_31 : decode cX0_readItem 31 = .ok (.aload_n 1, 1) := by decide +kernel
theorem dX0_readItem_32 : decode cX0_readItem 32 = .ok (.invokevirtual 44, 3) := by decide +kernel
theorem dX0_readItem_35 : decode cX0_readItem 35 = .ok (.ireturn, 1) := by decide +kernel
theorem dX0_readItem_36 : decode cX0_readItem 36 = .ok (.aload_n 0, 1) := by decide +kernel
theorem dX0_readItem_37 : decode cX0_readItem 37 = .ok (.invokevirtual 47, 3) := by decide +kernel
theorem dX0_readItem_40 : decode cX0_readItem 40 = .ok (.istore_n 2, 1) := by decide +kernel
theorem dX0_readItem_41 : decode cX0_readItem 41 = .ok (.iload_n 2, 1) := by decide +kernel
theorem dX0_readItem_42 : decode cX0_readItem 42 = .ok (.ifCond .lt 10, 3) := by decide +kernel
theorem dX0_readItem_45 : decode cX0_readItem 45 = .ok (.aload_n 1, 1) := by decide +kernel
theorem dX0_readItem_46 : decode cX0_readItem 46 = .ok (.invokevirtual 51, 3) := by decide +kernel
theorem dX0_readItem_49 : decode cX0_readItem 49 = .ok (.ifCond .eq 5, 3) := by decide +kernel
theorem dX0_readItem_52 : decode cX0_readItem 52 = .ok (.iconst 0, 1) := by decide +kernel
theorem dX0_readItem_53 : decode cX0_readItem 53 = .ok (.ireturn, 1) := by decide +kernel
theorem dX0_readItem_54 : decode cX0_readItem 54 = .ok (.aload_n 0, 1) := by decide +kernel
theorem dX0_readItem_55 : decode cX0_readItem 55 = .ok (.getfield 10, 3) := by decide +kernel
theorem dX0_readItem_58 : decode cX0_readItem 58 = .ok (.invokevirtual 27, 3) := by decide +kernel
theorem dX0_readItem_61 : decode cX0_readItem 61 = .ok (.aload_n 1, 1) := by decide +kernel
theorem dX0_readItem_62 : decode cX0_readItem 62 = .ok (.iload_n 2, 1) := by decide +kernel
theorem dX0_readItem_63 : decode cX0_readItem 63 = .ok (.iconst 0, 1) := by decide +kernel
theorem dX0_readItem_64 : decode cX0_readItem 64 = .ok (.invokevirtual 57, 3) := by decide +kernel
theorem dX0_readItem_67 : decode cX0_readItem 67 = .ok (.istore_n 3, 1) := by decide +kernel
theorem dX0_readItem_68 : decode cX0_readItem 68 = .ok (.aload_n 0, 1) := by decide +kernel
theorem dX0_readItem_69 : decode cX0_readItem 69 = .ok (.aload_n 1, 1) := by decide +kernel
theorem dX0_readItem_70 : decode cX0_readItem 70 = .ok (.ldc 61, 2) := by decide +kernel
theorem dX0_readItem_72 : decode cX0_readItem 72 = .ok (.iload_n 3, 1) := by decide +kernel
theorem dX0_readItem_73 : decode cX0_readItem 73 = .ok (.iconst 1, 1) := by decide +kernel
theorem dX0_readItem_74 : decode cX0_readItem 74 = .ok (.iconst 0, 1) := by decide +kernel
theorem dX0_readItem_75 : decode cX0_readItem 75 = .ok (.bipush 59, 2) := by decide +kernel
theorem dX0_readItem_77 : decode cX0_readItem 77 = .ok (.invokevirtual 65, 3) := by decide +kernel
theorem dX0_readItem_80 : decode cX0_readItem 80 = .ok (.ifCond .eq 68, 3) := by decide +kernel
theorem dX0_readItem_83 : decode cX0_readItem 83 = .ok (.aload_n 0, 1) := by decide +kernel
theorem dX0_readItem_84 : decode cX0_readItem 84 = .ok (.aload_n 1, 1) := by decide +kernel
theorem dX0_readItem_85 : decode cX0_readItem 85 = .ok (.ldc 69, 2) := by decide +kernel
theorem dX0_readItem_87 : decode cX0_readItem 87 = .ok (.iload_n 3, 1) := by decide +kernel
theorem dX0_readItem_88 : decode cX0_readItem 88 = .ok (.iconst 2, 1) := by decide +kernel
theorem dX0_readItem_89 : decode cX0_readItem 89 = .ok (.iconst 0, 1) := by decide +kernel
theorem dX0_readItem_90 : decode cX0_readItem 90 = .ok (.iload_n 3, 1) := by decide +kernel
theorem dX0_readItem_91 : decode cX0_readItem 91 = .ok (.iconst 1, 1) := by decide +kernel
theorem dX0_readItem_92 : decode cX0_readItem 92 = .ok (.isub, 1) := by decide +kernel
theorem dX0_readItem_93 : decode cX0_readItem 93 = .ok (.invokevirtual 65, 3) := by decide +kernel
theorem dX0_readItem_96 : decode cX0_readItem 96 = .ok (.ifCond .eq 52, 3) := by decide +kernel
theorem dX0_readItem_99 : decode cX0_readItem 99 = .ok (.aload_n 0, 1) := by decide +kernel
theorem dX0_readItem_100 : decode cX0_readItem 100 = .ok (.aload_n 1, 1) := by decide +kernel
theorem dX0_readItem_101 : decode cX0_readItem 101 = .ok (.ldc 71, 2) := by decide +kernel
theorem dX0_readItem_103 : decode cX0_readItem 103 = .ok (.iload_n 3, 1) := by decide +kernel
theorem dX0_readItem_104 : decode cX0_readItem 104 = .ok (.iconst 3, 1) := by decide +kernel
theorem dX0_readItem_105 : decode cX0_readItem 105 = .ok (.iconst 0, 1) := by decide +kernel
theorem dX0_readItem_106 : decode cX0_readItem 106 = .ok (.bipush 99, 2) := by decide +kernel
theorem dX0_readItem_108 : decode cX0_readItem 108 = .ok (.invokevirtual 65, 3) := by decide +kernel
theorem dX0_readItem_111 : decode cX0_readItem 111 = .ok (.ifCond .eq 37, 3) := by decide +kernel
theorem dX0_readItem_114 : decode cX0_readItem 114 = .ok (.aload_n 0, 1) := by decide +kernel
theorem dX0_readItem_115 : decode cX0_readItem 115 = .ok (.aload_n 1, 1) := by decide +kernel
theorem dX0_readItem_116 : decode cX0_readItem 116 = .ok (.ldc 73, 2) := by decide +kernel
theorem dX0_readItem_118 : decode cX0_readItem 118 = .ok (.iload_n 3, 1) := by decide +kernel
theorem dX0_readItem_119 : decode cX0_readItem 119 = .ok (.iconst 4, 1) := by decide +kernel
theorem dX0_readItem_120 : decode cX0_readItem 120 = .ok (.iconst 0, 1) := by decide +kernel
theorem dX0_readItem_121 : decode cX0_readItem 121 = .ok (.bipush 120, 2) := by decide +kernel
theorem dX0_readItem_123 : decode cX0_readItem 123 = .ok (.invokevirtual 65, 3) := by decide +kernel
theorem dX0_readItem_126 : decode cX0_readItem 126 = .ok (.ifCond .eq 22, 3) := by decide +kernel
theorem dX0_readItem_129 : decode cX0_readItem 129 = .ok (.aload_n 0, 1) := by decide +kernel
theorem dX0_readItem_130 : decode cX0_readItem 130 = .ok (.aload_n 1, 1) := by decide +kernel
theorem dX0_readItem_131 : decode cX0_readItem 131 = .ok (.ldc 75, 2) := by decide +kernel
theorem dX0_readItem_133 : decode cX0_readItem 133 = .ok (.iload_n 3, 1) := by decide +kernel
theorem dX0_readItem_134 : decode cX0_readItem 134 = .ok (.iconst 5, 1) := by decide +kernel
theorem dX0_readItem_135 : decode cX0_readItem 135 = .ok (.iconst 1, 1) := by decide +kernel
theorem dX0_readItem_136 : decode cX0_readItem 136 = .ok (.bipush 9, 2) := by decide +kernel
theorem dX0_readItem_138 : decode cX0_readItem 138 = .ok (.invokevirtual 65, 3) := by decide +kernel
theorem dX0_readItem_141 : decode cX0_readItem 141 = .ok (.ifCond .eq 7, 3) := by decide +kernel
theorem dX0_readItem_144 : decode cX0_readItem 144 = .ok (.iconst 1, 1) := by decide +kernel
theorem dX0_readItem_145 : decode cX0_readItem 145 = .ok (.goto 4, 3) := by decide +kernel
theorem dX0_readItem_148 : decode cX0_readItem 148 = .ok (.iconst 0, 1) := by decide +kernel
theorem dX0_readItem_149 : decode cX0_readItem 149 = .ok (.ireturn, 1) := by decide +kernel
theorem dX0_readDead_0 : decode cX0_readDead 0 = .ok (.aload_n 0, 1) := by decide +kernel
theorem dX0_readDead_1 : decode cX0_readDead 1 = .ok (.getfield 10, 3) := by decide +kernel
theorem dX0_readDead_4 : decode cX0_readDead 4 = .ok (.invokevirtual 27, 3) := by decide +kernel
theorem dX0_readDead_7 : decode cX0_readDead 7 = .ok (.aload_n 0, 1) := by decide +kernel
theorem dX0_readDead_8 : decode cX0_readDead 8 = .ok (.getfield 10, 3) := by decide +kernel
theorem dX0_readDead_11 : decode cX0_readDead 11 = .ok (.getfield 77, 3) := by decide +kernel
theorem dX0_readDead_14 : decode cX0_readDead 14 = .ok (.istore_n 2, 1) := by decide +kernel
theorem dX0_readDead_15 : decode cX0_readDead 15 = .ok (.aload_n 0, 1) := by decide +kernel
theorem dX0_readDead_16 : decode cX0_readDead 16 = .ok (.iconst 0, 1) := by decide +kernel
theorem dX0_readDead_17 : decode cX0_readDead 17 = .ok (.aload_n 1, 1) := by decide +kernel
theorem dX0_readDead_18 : decode cX0_readDead 18 = .ok (.getfield 80, 3) := by decide +kernel
theorem dX0_readDead_21 : decode cX0_readDead 21 = .ok (.iconst 1, 1) := by decide +kernel
theorem dX0_readDead_22 : decode cX0_readDead 22 = .ok (.isub, 1) := by decide +kernel
theorem dX0_readDead_23 : decode cX0_readDead 23 = .ok (.invokevirtual 83, 3) := by decide +kernel
theorem dX0_readDead_26 : decode cX0_readDead 26 = .ok (.ifCond .ne 5, 3) := by decide +kernel
theorem dX0_readDead_29 : decode cX0_readDead 29 = .ok (.iconst 0, 1) := by decide +kernel
theorem dX0_readDead_30 : decode cX0_readDead 30 = .ok (.ireturn, 1) := by decide +kernel
theorem dX0_readDead_31 : decode cX0_readDead 31 = .ok (.aload_n 1, 1) := by decide +kernel
theorem dX0_readDead_32 : decode cX0_readDead 32 = .ok (.iload_n 2, 1) := by decide +kernel
theorem dX0_readDead_33 : decode cX0_readDead 33 = .ok (.bipush 6, 2) := by decide +kernel
theorem dX0_readDead_35 : decode cX0_readDead 35 = .ok (.iconst 1, 1) := by decide +kernel
theorem dX0_readDead_36 : decode cX0_readDead 36 = .ok (.invokevirtual 87, 3) := by decide +kernel
theorem dX0_readDead_39 : decode cX0_readDead 39 = .ok (.iconst 1, 1) := by decide +kernel
theorem dX0_readDead_40 : decode cX0_readDead 40 = .ok (.ireturn, 1) := by decide +kernel
theorem dX0_readSings_0 : decode cX0_readSings 0 = .ok (.aload_n 0, 1) := by decide +kernel
theorem dX0_readSings_1 : decode cX0_readSings 1 = .ok (.getfield 10, 3) := by decide +kernel
theorem dX0_readSings_4 : decode cX0_readSings 4 = .ok (.invokevirtual 27, 3) := by decide +kernel
theorem dX0_readSings_7 : decode cX0_readSings 7 = .ok (.aload_n 0, 1) := by decide +kernel
theorem dX0_readSings_8 : decode cX0_readSings 8 = .ok (.getfield 10, 3) := by decide +kernel
theorem dX0_readSings_11 : decode cX0_readSings 11 = .ok (.getfield 77, 3) := by decide +kernel
theorem dX0_readSings_14 : decode cX0_readSings 14 = .ok (.istore_n 2, 1) := by decide +kernel
theorem dX0_readSings_15 : decode cX0_readSings 15 = .ok (.aload_n 0, 1) := by decide +kernel
theorem dX0_readSings_16 : decode cX0_readSings 16 = .ok (.iconst 0, 1) := by decide +kernel
theorem dX0_readSings_17 : decode cX0_readSings 17 = .ok (.aload_n 1, 1) := by decide +kernel
theorem dX0_readSings_18 : decode cX0_readSings 18 = .ok (.getfield 80, 3) := by decide +kernel
theorem dX0_readSings_21 : decode cX0_readSings 21 = .ok (.iconst 1, 1) := by decide +kernel
theorem dX0_readSings_22 : decode cX0_readSings 22 = .ok (.isub, 1) := by decide +kernel
theorem dX0_readSings_23 : decode cX0_readSings 23 = .ok (.invokevirtual 83, 3) := by decide +kernel
theorem dX0_readSings_26 : decode cX0_readSings 26 = .ok (.ifCond .ne 5, 3) := by decide +kernel
theorem dX0_readSings_29 : decode cX0_readSings 29 = .ok (.iconst 0, 1) := by decide +kernel
theorem dX0_readSings_30 : decode cX0_readSings 30 = .ok (.ireturn, 1) := by decide +kernel
theorem dX0_readSings_31 : decode cX0_readSings 31 = .ok (.aload_n 0, 1) := by decide +kernel
theorem dX0_readSings_32 : decode cX0_readSings 32 = .ok (.getfield 10, 3) := by decide +kernel
theorem dX0_readSings_35 : decode cX0_readSings 35 = .ok (.getfield 77, 3) := by decide +kernel
theorem dX0_readSings_38 : decode cX0_readSings 38 = .ok (.istore_n 3, 1) := by decide +kernel
theorem dX0_readSings_39 : decode cX0_readSings 39 = .ok (.aload_n 0, 1) := by decide +kernel
theorem dX0_readSings_40 : decode cX0_readSings 40 = .ok (.iconst 1, 1) := by decide +kernel
theorem dX0_readSings_41 : decode cX0_readSings 41 = .ok (.bipush 99, 2) := by decide +kernel
theorem dX0_readSings_43 : decode cX0_readSings 43 = .ok (.invokevirtual 83, 3) := by decide +kernel
theorem dX0_readSings_46 : decode cX0_readSings 46 = .ok (.ifCond .ne 5, 3) := by decide +kernel
theorem dX0_readSings_49 : decode cX0_readSings 49 = .ok (.iconst 0, 1) := by decide +kernel
theorem dX0_readSings_50 : decode cX0_readSings 50 = .ok (.ireturn, 1) := by decide +kernel
theorem dX0_readSings_51 : decode cX0_readSings 51 = .ok (.aload_n 1, 1) := by decide +kernel
theorem dX0_readSings_52 : decode cX0_readSings 52 = .ok (.iload_n 2, 1) := by decide +kernel
theorem dX0_readSings_53 : decode cX0_readSings 53 = .ok (.bipush 7, 2) := by decide +kernel
theorem dX0_readSings_55 : decode cX0_readSings 55 = .ok (.iload_n 3, 1) := by decide +kernel
theorem dX0_readSings_56 : decode cX0_readSings 56 = .ok (.invokevirtual 87, 3) := by decide +kernel
theorem dX0_readSings_59 : decode cX0_readSings 59 = .ok (.iconst 1, 1) := by decide +kernel
theorem dX0_readSings_60 : decode cX0_readSings 60 = .ok (.ireturn, 1) := by decide +kernel
theorem dX0_readOwn_0 : decode cX0_readOwn 0 = .ok (.aload_n 0, 1) := by decide +kernel
theorem dX0_readOwn_1 : decode cX0_readOwn 1 = .ok (.getfield 10, 3) := by decide +kernel
theorem dX0_readOwn_4 : decode cX0_readOwn 4 = .ok (.aload_n 2, 1) := by decide +kernel
theorem dX0_readOwn_5 : decode cX0_readOwn 5 = .ok (.invokevirtual 35, 3) := by decide +kernel
theorem dX0_readOwn_8 : decode cX0_readOwn 8 = .ok (.ifCond .ne 5, 3) := by decide +kernel
theorem dX0_readOwn_11 : decode cX0_readOwn 11 = .ok (.iconst 1, 1) := by decide +kernel
theorem dX0_readOwn_12 : decode cX0_readOwn 12 = .ok (.ireturn, 1) := by decide +kernel
theorem dX0_readOwn_13 : decode cX0_readOwn 13 = .ok (.aload_n 0, 1) := by decide +kernel
theorem dX0_readOwn_14 : decode cX0_readOwn 14 = .ok (.getfield 10, 3) := by decide +kernel
theorem dX0_readOwn_17 : decode cX0_readOwn 17 = .ok (.invokevirtual 27, 3) := by decide +kernel
theorem dX0_readOwn_20 : decode cX0_readOwn 20 = .ok (.aload_n 0, 1) := by decide +kernel
theorem dX0_readOwn_21 : decode cX0_readOwn 21 = .ok (.getfield 10, 3) := by decide +kernel
theorem dX0_readOwn_24 : decode cX0_readOwn 24 = .ok (.getfield 77, 3) := by decide +kernel
theorem dX0_readOwn_27 : decode cX0_readOwn 27 = .ok (.istore 7, 2) := by decide +kernel
theorem dX0_readOwn_29 : decode cX0_readOwn 29 = .ok (.aload_n 0, 1) := by decide +kernel
theorem dX0_readOwn_30 : decode cX0_readOwn 30 = .ok (.iload 5, 2) := by decide +kernel
theorem dX0_readOwn_32 : decode cX0_readOwn 32 = .ok (.iload 6, 2) := by decide +kernel
theorem dX0_readOwn_34 : decode cX0_readOwn 34 = .ok (.invokevirtual 83, 3) := by decide +kernel
theorem dX0_readOwn_37 : decode cX0_readOwn 37 = .ok (.ifCond .ne 5, 3) := by decide +kernel
theorem dX0_readOwn_40 : decode cX0_readOwn 40 = .ok (.iconst 0, 1) := by decide +kernel
theorem dX0_readOwn_41 : decode cX0_readOwn 41 = .ok (.ireturn, 1) := by decide +kernel
theorem dX0_readOwn_42 : decode cX0_readOwn 42 = .ok (.aload_n 1, 1) := by decide +kernel
theorem dX0_readOwn_43 : decode cX0_readOwn 43 = .ok (.iload_n 3, 1) := by decide +kernel
theorem dX0_readOwn_44 : decode cX0_readOwn 44 = .ok (.iload 4, 2) := by decide +kernel
theorem dX0_readOwn_46 : decode cX0_readOwn 46 = .ok (.iload 7, 2) := by decide +kernel
theorem dX0_readOwn_48 : decode cX0_readOwn 48 = .ok (.invokevirtual 87, 3) := by decide +kernel
theorem dX0_readOwn_51 : decode cX0_readOwn 51 = .ok (.iconst 1, 1) := by decide +kernel
theorem dX0_readOwn_52 : decode cX0_readOwn 52 = .ok (.ireturn, 1) := by decide +kernel
theorem dX0_readNumber_0 : decode cX0_readNumber 0 = .ok (.aload_n 0, 1) := by decide +kernel
theorem dX0_readNumber_1 : decode cX0_readNumber 1 = .ok (.getfield 10, 3) := by decide +kernel
theorem dX0_readNumber_4 : decode cX0_readNumber 4 = .ok (.getfield 23, 3) := by decide +kernel
theorem dX0_readNumber_7 : decode cX0_readNumber 7 = .ok (.iconst 2, 1) := by decide +kernel
theorem dX0_readNumber_8 : decode cX0_readNumber 8 = .ok (.if_icmp .ne 18, 3) := by decide +kernel
theorem dX0_readNumber_11 : decode cX0_readNumber 11 = .ok (.aload_n 0, 1) := by decide +kernel
theorem dX0_readNumber_12 : decode cX0_readNumber 12 = .ok (.getfield 10, 3) := by decide +kernel
theorem dX0_readNumber_15 : decode cX0_readNumber 15 = .ok (.getfield 77, 3) := by decide +kernel
theorem dX0_readNumber_18 : decode cX0_readNumber 18 = .ok (.iload_n 1, 1) := by decide +kernel
theorem dX0_readNumber_19 : decode cX0_readNumber 19 = .ok (.iload_n 2, 1) := by decide +kernel
theorem dX0_readNumber_20 : decode cX0_readNumber 20 = .ok (.invokestatic 91, 3) := by decide +kernel
theorem dX0_readNumber_23 : decode cX0_readNumber 23 = .ok (.ifCond .ne 5, 3) := by decide +kernel
theorem dX0_readNumber_26 : decode cX0_readNumber 26 = .ok (.iconst 0, 1) := by decide +kernel
theorem dX0_readNumber_27 : decode cX0_readNumber 27 = .ok (.ireturn, 1) := by decide +kernel
theorem dX0_readNumber_28 : decode cX0_readNumber 28 = .ok (.aload_n 0, 1) := by decide +kernel
theorem dX0_readNumber_29 : decode cX0_readNumber 29 = .ok (.getfield 10, 3) := by decide +kernel
theorem dX0_readNumber_32 : decode cX0_readNumber 32 = .ok (.invokevirtual 27, 3) := by decide +kernel
theorem dX0_readNumber_35 : decode cX0_readNumber 35 = .ok (.iconst 1, 1) := by decide +kernel
theorem dX0_readNumber_36 : decode cX0_readNumber 36 = .ok (.ireturn, 1) := by decide +kernel
theorem dX0_kindOfWord_0 : decode cX0_kindOfWord 0 = .ok (.iconst 0, 1) := by decide +kernel
theorem dX0_kindOfWord_1 : decode cX0_kindOfWord 1 = .ok (.istore_n 1, 1) := by decide +kernel
theorem dX0_kindOfWord_2 : decode cX0_kindOfWord 2 = .ok (.iload_n 1, 1) := by decide +kernel
theorem dX0_kindOfWord_3 : decode cX0_kindOfWord 3 = .ok (.bipush 6, 2) := by decide +kernel
theorem dX0_kindOfWord_5 : decode cX0_kindOfWord 5 = .ok (.if_icmp .gt 25, 3) := by decide +kernel
theorem dX0_kindOfWord_8 : decode cX0_kindOfWord 8 = .ok (.aload_n 0, 1) := by decide +kernel
theorem dX0_kindOfWord_9 : decode cX0_kindOfWord 9 = .ok (.getfield 10, 3) := by decide +kernel
theorem dX0_kindOfWord_12 : decode cX0_kindOfWord 12 = .ok (.iload_n 1, 1) := by decide +kernel
theorem dX0_kindOfWord_13 : decode cX0_kindOfWord 13 = .ok (.invokestatic 97, 3) := by decide +kernel
theorem dX0_kindOfWord_16 : decode cX0_kindOfWord 16 = .ok (.invokevirtual 35, 3) := by decide +kernel
theorem dX0_kindOfWord_19 : decode cX0_kindOfWord 19 = .ok (.ifCond .eq 5, 3) := by decide +kernel
theorem dX0_kindOfWord_22 : decode cX0_kindOfWord 22 = .ok (.iload_n 1, 1) := by decide +kernel
theorem dX0_kindOfWord_23 : decode cX0_kindOfWord 23 = .ok (.ireturn, 1) := by decide +kernel
theorem dX0_kindOfWord_24 : decode cX0_kindOfWord 24 = .ok (.iinc 1 1, 3) := by decide +kernel
theorem dX0_kindOfWord_27 : decode cX0_kindOfWord 27 = .ok (.goto (-25), 3) := by decide +kernel
theorem dX0_kindOfWord_30 : decode cX0_kindOfWord 30 = .ok (.iconst (-1), 1) := by decide +kernel
theorem dX0_kindOfWord_31 : decode cX0_kindOfWord 31 = .ok (.ireturn, 1) := by decide +kernel
theorem dX0_wordOf_0 : decode cX0_wordOf 0 = .ok (.iload_n 0, 1) := by decide +kernel
theorem dX0_wordOf_1 : decode cX0_wordOf 1 = .ok (.tableswitch 57 0 5 #[39, 42, 45, 48, 51, 54], 39) := by decide +kernel
theorem dX0_wordOf_40 : decode cX0_wordOf 40 = .ok (.ldc 101, 2) := by decide +kernel
theorem dX0_wordOf_42 : decode cX0_wordOf 42 = .ok (.areturn, 1) := by decide +kernel
theorem dX0_wordOf_43 : decode cX0_wordOf 43 = .ok (.ldc 103, 2) := by decide +kernel
theorem dX0_wordOf_45 : decode cX0_wordOf 45 = .ok (.areturn, 1) := by decide +kernel
theorem dX0_wordOf_46 : decode cX0_wordOf 46 = .ok (.ldc 105, 2) := by decide +kernel
theorem dX0_wordOf_48 : decode cX0_wordOf 48 = .ok (.areturn, 1) := by decide +kernel
theorem dX0_wordOf_49 : decode cX0_wordOf 49 = .ok (.ldc 107, 2) := by decide +kernel
theorem dX0_wordOf_51 : decode cX0_wordOf 51 = .ok (.areturn, 1) := by decide +kernel
theorem dX0_wordOf_52 : decode cX0_wordOf 52 = .ok (.ldc 109, 2) := by decide +kernel
theorem dX0_wordOf_54 : decode cX0_wordOf 54 = .ok (.areturn, 1) := by decide +kernel
theorem dX0_wordOf_55 : decode cX0_wordOf 55 = .ok (.ldc 111, 2) := by decide +kernel
theorem dX0_wordOf_57 : decode cX0_wordOf 57 = .ok (.areturn, 1) := by decide +kernel
theorem dX0_wordOf_58 : decode cX0_wordOf 58 = .ok (.ldc 113, 2) := by decide +kernel
theorem dX0_wordOf_60 : decode cX0_wordOf 60 = .ok (.areturn, 1) := by decide +kernel
theorem dX1_init_0 : decode cX1_init 0 = .ok (.aload_n 0, 1) := by decide +kernel
theorem dX1_init_1 : decode cX1_init 1 = .ok (.invokespecial 1, 3) := by decide +kernel
theorem dX1_init_4 : decode cX1_init 4 = .ok (.aload_n 0, 1) := by decide +kernel
theorem dX1_init_5 : decode cX1_init 5 = .ok (.bipush 40, 2) := by decide +kernel
theorem dX1_init_7 : decode cX1_init 7 = .ok (.newarray .int, 2) := by decide +kernel
theorem dX1_init_9 : decode cX1_init 9 = .ok (.putfield 9, 3) := by decide +kernel
theorem dX1_init_12 : decode cX1_init 12 = .ok (.aload_n 0, 1) := by decide +kernel
theorem dX1_init_13 : decode cX1_init 13 = .ok (.iconst 0, 1) := by decide +kernel
theorem dX1_init_14 : decode cX1_init 14 = .ok (.putfield 13, 3) := by decide +kernel
theorem dX1_init_17 : decode cX1_init 17 = .ok (.aload_n 0, 1) := by decide +kernel
theorem dX1_init_18 : decode cX1_init 18 = .ok (.iconst 0, 1) := by decide +kernel
theorem dX1_init_19 : decode cX1_init 19 = .ok (.putfield 17, 3) := by decide +kernel
theorem dX1_init_22 : decode cX1_init 22 = .ok (.return_, 1) := by decide +kernel
theorem dX1_lay_0 : decode cX1_lay 0 = .ok (.aload_n 0, 1) := by decide +kernel
theorem dX1_lay_1 : decode cX1_lay 1 = .ok (.iload_n 1, 1) := by decide +kernel
theorem dX1_lay_2 : decode cX1_lay 2 = .ok (.putfield 13, 3) := by decide +kernel
theorem dX1_lay_5 : decode cX1_lay 5 = .ok (.aload_n 0, 1) := by decide +kernel
theorem dX1_lay_6 : decode cX1_lay 6 = .ok (.iload_n 1, 1) := by decide +kernel
theorem dX1_lay_7 : decode cX1_lay 7 = .ok (.ifCond .ne 7, 3) := by decide +kernel
theorem dX1_lay_10 : decode cX1_lay 10 = .ok (.iconst 0, 1) := by decide +kernel
theorem dX1_lay_11 : decode cX1_lay 11 = .ok (.goto 4, 3) := by decide +kernel
theorem dX1_lay_14 : decode cX1_lay 14 = .ok (.iload_n 2, 1) := by decide +kernel
theorem dX1_lay_15 : decode cX1_lay 15 = .ok (.putfield 17, 3) := by decide +kernel
theorem dX1_lay_18 : decode cX1_lay 18 = .ok (.iconst 0, 1) := by decide +kernel
theorem dX1_lay_19 : decode cX1_lay 19 = .ok (.istore_n 3, 1) := by decide +kernel
theorem dX1_lay_20 : decode cX1_lay 20 = .ok (.iload_n 3, 1) := by decide +kernel
theorem dX1_lay_21 : decode cX1_lay 21 = .ok (.bipush 40, 2) := by decide +kernel
theorem dX1_lay_23 : decode cX1_lay 23 = .ok (.if_icmp .ge 16, 3) := by decide +kernel
theorem dX1_lay_26 : decode cX1_lay 26 = .ok (.aload_n 0, 1) := by decide +kernel
theorem dX1_lay_27 : decode cX1_lay 27 = .ok (.getfield 9, 3) := by decide +kernel
theorem dX1_lay_30 : decode cX1_lay 30 = .ok (.iload_n 3, 1) := by decide +kernel
theorem dX1_lay_31 : decode cX1_lay 31 = .ok (.iconst 0, 1) := by decide +kernel
theorem dX1_lay_32 : decode cX1_lay 32 = .ok (.iastore, 1) := by decide +kernel
theorem dX1_lay_33 : decode cX1_lay 33 = .ok (.iinc 3 1, 3) := by decide +kernel
theorem dX1_lay_36 : decode cX1_lay 36 = .ok (.goto (-16), 3) := by decide +kernel
theorem dX1_lay_39 : decode cX1_lay 39 = .ok (.return_, 1) := by decide +kernel
theorem dX1_put_0 : decode cX1_put 0 = .ok (.iload_n 1, 1) := by decide +kernel
theorem dX1_put_1 : decode cX1_put 1 = .ok (.iconst 0, 1) := by decide +kernel
theorem dX1_put_2 : decode cX1_put 2 = .ok (.aload_n 0, 1) := by decide +kernel
theorem dX1_put_3 : decode cX1_put 3 = .ok (.getfield 17, 3) := by decide +kernel
theorem dX1_put_6 : decode cX1_put 6 = .ok (.iconst 1, 1) := by decide +kernel
theorem dX1_put_7 : decode cX1_put 7 = .ok (.isub, 1) := by decide +kernel
theorem dX1_put_8 : decode cX1_put 8 = .ok (.invokestatic 20, 3) := by decide +kernel
theorem dX1_put_11 : decode cX1_put 11 = .ok (.ifCond .eq 38, 3) := by decide +kernel
theorem dX1_put_14 : decode cX1_put 14 = .ok (.aload_n 0, 1) := by decide +kernel
theorem dX1_put_15 : decode cX1_put 15 = .ok (.getfield 9, 3) := by decide +kernel
theorem dX1_put_18 : decode cX1_put 18 = .ok (.iload_n 1, 1) := by decide +kernel
theorem dX1_put_19 : decode cX1_put 19 = .ok (.aload_n 0, 1) := by decide +kernel
theorem dX1_put_20 : decode cX1_put 20 = .ok (.getfield 13, 3) := by decide +kernel
theorem dX1_put_23 : decode cX1_put 23 = .ok (.bipush 8, 2) := by decide +kernel
theorem dX1_put_25 : decode cX1_put 25 = .ok (.if_icmp .ne 8, 3) := by decide +kernel
theorem dX1_put_28 : decode cX1_put 28 = .ok (.iload_n 2, 1) := by decide +kernel
theorem dX1_put_29 : decode cX1_put 29 = .ok (.i2b, 1) := by decide +kernel
theorem dX1_put_30 : decode cX1_put 30 = .ok (.goto 18, 3) := by decide +kernel
theorem dX1_put_33 : decode cX1_put 33 = .ok (.aload_n 0, 1) := by decide +kernel
theorem dX1_put_34 : decode cX1_put 34 = .ok (.getfield 13, 3) := by decide +kernel
theorem dX1_put_37 : decode cX1_put 37 = .ok (.bipush 16, 2) := by decide +kernel
theorem dX1_put_39 : decode cX1_put 39 = .ok (.if_icmp .ne 8, 3) := by decide +kernel
theorem dX1_put_42 : decode cX1_put 42 = .ok (.iload_n 2, 1) := by decide +kernel
theorem dX1_put_43 : decode cX1_put 43 = .ok (.i2s, 1) := by decide +kernel
theorem dX1_put_44 : decode cX1_put 44 = .ok (.goto 4, 3) := by decide +kernel
theorem dX1_put_47 : decode cX1_put 47 = .ok (.iload_n 2, 1) := by decide +kernel
theorem dX1_put_48 : decode cX1_put 48 = .ok (.iastore, 1) := by decide +kernel
theorem dX1_put_49 : decode cX1_put 49 = .ok (.return_, 1) := by decide +kernel
theorem dX1_hasRun_0 : decode cX1_hasRun 0 = .ok (.iload_n 1, 1) := by decide +kernel
theorem dX1_hasRun_1 : decode cX1_hasRun 1 = .ok (.ifCond .lt 29, 3) := by decide +kernel
theorem dX1_hasRun_4 : decode cX1_hasRun 4 = .ok (.iload_n 2, 1) := by decide +kernel
theorem dX1_hasRun_5 : decode cX1_hasRun 5 = .ok (.ifCond .lt 25, 3) := by decide +kernel
theorem dX1_hasRun_8 : decode cX1_hasRun 8 = .ok (.iload_n 1, 1) := by decide +kernel
theorem dX1_hasRun_9 : decode cX1_hasRun 9 = .ok (.aload_n 0, 1) := by decide +kernel
theorem dX1_hasRun_10 : decode cX1_hasRun 10 = .ok (.getfield 17, 3) := by decide +kernel
theorem dX1_hasRun_13 : decode cX1_hasRun 13 = .ok (.if_icmp .gt 17, 3) := by decide +kernel
theorem dX1_hasRun_16 : decode cX1_hasRun 16 = .ok (.iload_n 2, 1) := by decide +kernel
theorem dX1_hasRun_17 : decode cX1_hasRun 17 = .ok (.aload_n 0, 1) := by decide +kernel
theorem dX1_hasRun_18 : decode cX1_hasRun 18 = .ok (.getfield 17, 3) := by decide +kernel
theorem dX1_hasRun_21 : decode cX1_hasRun 21 = .ok (.iload_n 1, 1) := by decide +kernel
theorem dX1_hasRun_22 : decode cX1_hasRun 22 = .ok (.isub, 1) := by decide +kernel
theorem dX1_hasRun_23 : decode cX1_hasRun 23 = .ok (.if_icmp .gt 7, 3) := by decide +kernel
theorem dX1_hasRun_26 : decode cX1_hasRun 26 = .ok (.iconst 1, 1) := by decide +kernel
theorem dX1_hasRun_27 : decode cX1_hasRun 27 = .ok (.goto 4, 3) := by decide +kernel
theorem dX1_hasRun_30 : decode cX1_hasRun 30 = .ok (.iconst 0, 1) := by decide +kernel
theorem dX1_hasRun_31 : decode cX1_hasRun 31 = .ok (.ireturn, 1) := by decide +kernel
theorem dX2_init_0 : decode cX2_init 0 = .ok (.aload_n 0, 1) := by decide +kernel
theorem dX2_init_1 : decode cX2_init 1 = .ok (.invokespecial 1, 3) := by decide +kernel
theorem dX2_init_4 : decode cX2_init 4 = .ok (.aload_n 0, 1) := by decide +kernel
theorem dX2_init_5 : decode cX2_init 5 = .ok (.getstatic 7, 3) := by decide +kernel
theorem dX2_init_8 : decode cX2_init 8 = .ok (.arraylength, 1) := by decide +kernel
theorem dX2_init_9 : decode cX2_init 9 = .ok (.newarray .int, 2) := by decide +kernel
theorem dX2_init_11 : decode cX2_init 11 = .ok (.putfield 13, 3) := by decide +kernel
theorem dX2_init_14 : decode cX2_init 14 = .ok (.aload_n 0, 1) := by decide +kernel
theorem dX2_init_15 : decode cX2_init 15 = .ok (.iconst 0, 1) := by decide +kernel
theorem dX2_init_16 : decode cX2_init 16 = .ok (.putfield 16, 3) := by decide +kernel
theorem dX2_init_19 : decode cX2_init 19 = .ok (.return_, 1) := by decide +kernel
theorem dX2_reset_0 : decode cX2_reset 0 = .ok (.getstatic 7, 3) := by decide +kernel
theorem dX2_reset_3 : decode cX2_reset 3 = .ok (.iconst 0, 1) := by decide +kernel
theorem dX2_reset_4 : decode cX2_reset 4 = .ok (.aload_n 0, 1) := by decide +kernel
theorem dX2_reset_5 : decode cX2_reset 5 = .ok (.getfield 13, 3) := by decide +kernel
theorem dX2_reset_8 : decode cX2_reset 8 = .ok (.iconst 0, 1) := by decide +kernel
theorem dX2_reset_9 : decode cX2_reset 9 = .ok (.aload_n 0, 1) := by decide +kernel
theorem dX2_reset_10 : decode cX2_reset 10 = .ok (.getfield 13, 3) := by decide +kernel
theorem dX2_reset_13 : decode cX2_reset 13 = .ok (.arraylength, 1) := by decide +kernel
theorem dX2_reset_14 : decode cX2_reset 14 = .ok (.invokestatic 20, 3) := by decide +kernel
theorem dX2_reset_17 : decode cX2_reset 17 = .ok (.return_, 1) := by decide +kernel
theorem dX2_become_0 : decode cX2_become 0 = .ok (.aload_n 1, 1) := by decide +kernel
theorem dX2_become_1 : decode cX2_become 1 = .ok (.getfield 13, 3) := by decide +kernel
theorem dX2_become_4 : decode cX2_become 4 = .ok (.iconst 0, 1) := by decide +kernel
theorem dX2_become_5 : decode cX2_become 5 = .ok (.aload_n 0, 1) := by decide +kernel
theorem dX2_become_6 : decode cX2_become 6 = .ok (.getfield 13, 3) := by decide +kernel
theorem dX2_become_9 : decode cX2_become 9 = .ok (.iconst 0, 1) := by decide +kernel
theorem dX2_become_10 : decode cX2_become 10 = .ok (.aload_n 0, 1) := by decide +kernel
theorem dX2_become_11 : decode cX2_become 11 = .ok (.getfield 13, 3) := by decide +kernel
theorem dX2_become_14 : decode cX2_become 14 = .ok (.arraylength, 1) := by decide +kernel
theorem dX2_become_15 : decode cX2_become 15 = .ok (.invokestatic 20, 3) := by decide +kernel
theorem dX2_become_18 : decode cX2_become 18 = .ok (.return_, 1) := by decide +kernel
theorem dX2_isInRange_0 : decode cX2_isInRange 0 = .ok (.iload_n 0, 1) := by decide +kernel
theorem dX2_isInRange_1 : decode cX2_isInRange 1 = .ok (.iconst 0, 1) := by decide +kernel
theorem dX2_isInRange_2 : decode cX2_isInRange 2 = .ok (.bipush 9, 2) := by decide +kernel
theorem dX2_isInRange_4 : decode cX2_isInRange 4 = .ok (.invokestatic 26, 3) := by decide +kernel
theorem dX2_isInRange_7 : decode cX2_isInRange 7 = .ok (.ifCond .eq 24, 3) := by decide +kernel
theorem dX2_isInRange_10 : decode cX2_isInRange 10 = .ok (.iload_n 1, 1) := by decide +kernel
theorem dX2_isInRange_11 : decode cX2_isInRange 11 = .ok (.getstatic 32, 3) := by decide +kernel
theorem dX2_isInRange_14 : decode cX2_isInRange 14 = .ok (.iload_n 0, 1) := by decide +kernel
theorem dX2_isInRange_15 : decode cX2_isInRange 15 = .ok (.iaload, 1) := by decide +kernel
theorem dX2_isInRange_16 : decode cX2_isInRange 16 = .ok (.getstatic 35, 3) := by decide +kernel
theorem dX2_isInRange_19 : decode cX2_isInRange 19 = .ok (.iload_n 0, 1) := by decide +kernel
theorem dX2_isInRange_20 : decode cX2_isInRange 20 = .ok (.iaload, 1) := by decide +kernel
theorem dX2_isInRange_21 : decode cX2_isInRange 21 = .ok (.invokestatic 26, 3) := by decide +kernel
theorem dX2_isInRange_24 : decode cX2_isInRange 24 = .ok (.ifCond .eq 7, 3) := by decide +kernel
theorem dX2_isInRange_27 : decode cX2_isInRange 27 = .ok (.iconst 1, 1) := by decide +kernel
theorem dX2_isInRange_28 : decode cX2_isInRange 28 = .ok (.goto 4, 3) := by decide +kernel
theorem dX2_isInRange_31 : decode cX2_isInRange 31 = .ok (.iconst 0, 1) := by decide +kernel
theorem dX2_isInRange_32 : decode cX2_isInRange 32 = .ok (.ireturn, 1) := by decide +kernel
theorem dX2_isUnder_0 : decode cX2_isUnder 0 = .ok (.iload_n 0, 1) := by decide +kernel
theorem dX2_isUnder_1 : decode cX2_isUnder 1 = .ok (.istore_n 2, 1) := by decide +kernel
theorem dX2_isUnder_2 : decode cX2_isUnder 2 = .ok (.iconst 0, 1) := by decide +kernel
theorem dX2_isUnder_3 : decode cX2_isUnder 3 = .ok (.istore_n 3, 1) := by decide +kernel
theorem dX2_isUnder_4 : decode cX2_isUnder 4 = .ok (.iload_n 3, 1) := by decide +kernel
theorem dX2_isUnder_5 : decode cX2_isUnder 5 = .ok (.bipush 6, 2) := by decide +kernel
theorem dX2_isUnder_7 : decode cX2_isUnder 7 = .ok (.if_icmp .gt 32, 3) := by decide +kernel
theorem dX2_isUnder_10 : decode cX2_isUnder 10 = .ok (.iload_n 2, 1) := by decide +kernel
theorem dX2_isUnder_11 : decode cX2_isUnder 11 = .ok (.iconst 0, 1) := by decide +kernel
theorem dX2_isUnder_12 : decode cX2_isUnder 12 = .ok (.bipush 6, 2) := by decide +kernel
theorem dX2_isUnder_14 : decode cX2_isUnder 14 = .ok (.invokestatic 26, 3) := by decide +kernel
theorem dX2_isUnder_17 : decode cX2_isUnder 17 = .ok (.ifCond .eq 22, 3) := by decide +kernel
theorem dX2_isUnder_20 : decode cX2_isUnder 20 = .ok (.iload_n 2, 1) := by decide +kernel
theorem dX2_isUnder_21 : decode cX2_isUnder 21 = .ok (.iload_n 1, 1) := by decide +kernel
theorem dX2_isUnder_22 : decode cX2_isUnder 22 = .ok (.if_icmp .ne 5, 3) := by decide +kernel
theorem dX2_isUnder_25 : decode cX2_isUnder 25 = .ok (.iconst 1, 1) := by decide +kernel
theorem dX2_isUnder_26 : decode cX2_isUnder 26 = .ok (.ireturn, 1) := by decide +kernel
theorem dX2_isUnder_27 : decode cX2_isUnder 27 = .ok (.getstatic 38, 3) := by decide +kernel
theorem dX2_isUnder_30 : decode cX2_isUnder 30 = .ok (.iload_n 2, 1) := by decide +kernel
theorem dX2_isUnder_31 : decode cX2_isUnder 31 = .ok (.iaload, 1) := by decide +kernel
theorem dX2_isUnder_32 : decode cX2_isUnder 32 = .ok (.istore_n 2, 1) := by decide +kernel
theorem dX2_isUnder_33 : decode cX2_isUnder 33 = .ok (.iinc 3 1, 3) := by decide +kernel
theorem dX2_isUnder_36 : decode cX2_isUnder 36 = .ok (.goto (-32), 3) := by decide +kernel
theorem dX2_isUnder_39 : decode cX2_isUnder 39 = .ok (.iconst 0, 1) := by decide +kernel
theorem dX2_isUnder_40 : decode cX2_isUnder 40 = .ok (.ireturn, 1) := by decide +kernel
theorem dX2_isSinging_0 : decode cX2_isSinging 0 = .ok (.aload_n 0, 1) := by decide +kernel
theorem dX2_isSinging_1 : decode cX2_isSinging 1 = .ok (.getfield 13, 3) := by decide +kernel
theorem dX2_isSinging_4 : decode cX2_isSinging 4 = .ok (.bipush 7, 2) := by decide +kernel
theorem dX2_isSinging_6 : decode cX2_isSinging 6 = .ok (.iaload, 1) := by decide +kernel
theorem dX2_isSinging_7 : decode cX2_isSinging 7 = .ok (.ifCond .le 17, 3) := by decide +kernel
theorem dX2_isSinging_10 : decode cX2_isSinging 10 = .ok (.aload_n 0, 1) := by decide +kernel
theorem dX2_isSinging_11 : decode cX2_isSinging 11 = .ok (.getfield 13, 3) := by decide +kernel
theorem dX2_isSinging_14 : decode cX2_isSinging 14 = .ok (.bipush 6, 2) := by decide +kernel
theorem dX2_isSinging_16 : decode cX2_isSinging 16 = .ok (.iaload, 1) := by decide +kernel
theorem dX2_isSinging_17 : decode cX2_isSinging 17 = .ok (.ifCond .ne 7, 3) := by decide +kernel
theorem dX2_isSinging_20 : decode cX2_isSinging 20 = .ok (.iconst 1, 1) := by decide +kernel
theorem dX2_isSinging_21 : decode cX2_isSinging 21 = .ok (.goto 4, 3) := by decide +kernel
theorem dX2_isSinging_24 : decode cX2_isSinging 24 = .ok (.iconst 0, 1) := by decide +kernel
theorem dX2_isSinging_25 : decode cX2_isSinging 25 = .ok (.ireturn, 1) := by decide +kernel
theorem dX2_begin_0 : decode cX2_begin 0 = .ok (.aload_n 0, 1) := by decide +kernel
theorem dX2_begin_1 : decode cX2_begin 1 = .ok (.getfield 13, 3) := by decide +kernel
theorem dX2_begin_4 : decode cX2_begin 4 = .ok (.bipush 7, 2) := by decide +kernel
theorem dX2_begin_6 : decode cX2_begin 6 = .ok (.aload_n 0, 1) := by decide +kernel
theorem dX2_begin_7 : decode cX2_begin 7 = .ok (.invokevirtual 41, 3) := by decide +kernel
theorem dX2_begin_10 : decode cX2_begin 10 = .ok (.bipush 99, 2) := by decide +kernel
theorem dX2_begin_12 : decode cX2_begin 12 = .ok (.invokestatic 45, 3) := by decide +kernel
theorem dX2_begin_15 : decode cX2_begin 15 = .ok (.iastore, 1) := by decide +kernel
theorem dX2_begin_16 : decode cX2_begin 16 = .ok (.aload_n 0, 1) := by decide +kernel
theorem dX2_begin_17 : decode cX2_begin 17 = .ok (.getfield 13, 3) := by decide +kernel
theorem dX2_begin_20 : decode cX2_begin 20 = .ok (.bipush 8, 2) := by decide +kernel
theorem dX2_begin_22 : decode cX2_begin 22 = .ok (.iconst 0, 1) := by decide +kernel
theorem dX2_begin_23 : decode cX2_begin 23 = .ok (.iastore, 1) := by decide +kernel
theorem dX2_begin_24 : decode cX2_begin 24 = .ok (.return_, 1) := by decide +kernel
theorem dX2_gap_0 : decode cX2_gap 0 = .ok (.iconst 1, 1) := by decide +kernel
theorem dX2_gap_1 : decode cX2_gap 1 = .ok (.aload_n 0, 1) := by decide +kernel
theorem dX2_gap_2 : decode cX2_gap 2 = .ok (.getfield 13, 3) := by decide +kernel
theorem dX2_gap_5 : decode cX2_gap 5 = .ok (.iconst 4, 1) := by decide +kernel
theorem dX2_gap_6 : decode cX2_gap 6 = .ok (.iaload, 1) := by decide +kernel
theorem dX2_gap_7 : decode cX2_gap 7 = .ok (.bipush 10, 2) := by decide +kernel
theorem dX2_gap_9 : decode cX2_gap 9 = .ok (.idiv, 1) := by decide +kernel
theorem dX2_gap_10 : decode cX2_gap 10 = .ok (.iadd, 1) := by decide +kernel
theorem dX2_gap_11 : decode cX2_gap 11 = .ok (.istore_n 1, 1) := by decide +kernel
theorem dX2_gap_12 : decode cX2_gap 12 = .ok (.aload_n 0, 1) := by decide +kernel
theorem dX2_gap_13 : decode cX2_gap 13 = .ok (.getfield 13, 3) := by decide +kernel
theorem dX2_gap_16 : decode cX2_gap 16 = .ok (.iconst 0, 1) := by decide +kernel
theorem dX2_gap_17 : decode cX2_gap 17 = .ok (.iaload, 1) := by decide +kernel
theorem dX2_gap_18 : decode cX2_gap 18 = .ok (.tableswitch 69 1 6 #[38, 50, 40, 44, 69, 52], 38) := by decide +kernel
theorem dX2_gap_56 : decode cX2_gap 56 = .ok (.iload_n 1, 1) := by decide +kernel
theorem dX2_gap_57 : decode cX2_gap 57 = .ok (.ireturn, 1) := by decide +kernel
theorem dX2_gap_58 : decode cX2_gap 58 = .ok (.iconst 2, 1) := by decide +kernel
theorem dX2_gap_59 : decode cX2_gap 59 = .ok (.iload_n 1, 1) := by decide +kernel
theorem dX2_gap_60 : decode cX2_gap 60 = .ok (.imul, 1) := by decide +kernel
theorem dX2_gap_61 : decode cX2_gap 61 = .ok (.ireturn, 1) := by decide +kernel
theorem dX2_gap_62 : decode cX2_gap 62 = .ok (.iconst 2, 1) := by decide +kernel
theorem dX2_gap_63 : decode cX2_gap 63 = .ok (.iload_n 1, 1) := by decide +kernel
theorem dX2_gap_64 : decode cX2_gap 64 = .ok (.imul, 1) := by decide +kernel
theorem dX2_gap_65 : decode cX2_gap 65 = .ok (.iconst 5, 1) := by decide +kernel
theorem dX2_gap_66 : decode cX2_gap 66 = .ok (.iadd, 1) := by decide +kernel
theorem dX2_gap_67 : decode cX2_gap 67 = .ok (.ireturn, 1) := by decide +kernel
theorem dX2_gap_68 : decode cX2_gap 68 = .ok (.iconst 3, 1) := by decide +kernel
theorem dX2_gap_69 : decode cX2_gap 69 = .ok (.ireturn, 1) := by decide +kernel
theorem dX2_gap_70 : decode cX2_gap 70 = .ok (.aload_n 0, 1) := by decide +kernel
theorem dX2_gap_71 : decode cX2_gap 71 = .ok (.getfield 13, 3) := by decide +kernel
theorem dX2_gap_74 : decode cX2_gap 74 = .ok (.iconst 3, 1) := by decide +kernel
theorem dX2_gap_75 : decode cX2_gap 75 = .ok (.iaload, 1) := by decide +kernel
theorem dX2_gap_76 : decode cX2_gap 76 = .ok (.bipush 50, 2) := by decide +kernel
theorem dX2_gap_78 : decode cX2_gap 78 = .ok (.if_icmp .lt 7, 3) := by decide +kernel
theorem dX2_gap_81 : decode cX2_gap 81 = .ok (.iconst 2, 1) := by decide +kernel
theorem dX2_gap_82 : decode cX2_gap 82 = .ok (.goto 4, 3) := by decide +kernel
theorem dX2_gap_85 : decode cX2_gap 85 = .ok (.iconst 3, 1) := by decide +kernel
theorem dX2_gap_86 : decode cX2_gap 86 = .ok (.ireturn, 1) := by decide +kernel
theorem dX2_gap_87 : decode cX2_gap 87 = .ok (.iconst 1, 1) := by decide +kernel
theorem dX2_gap_88 : decode cX2_gap 88 = .ok (.ireturn, 1) := by decide +kernel
theorem dX2_lasting_0 : decode cX2_lasting 0 = .ok (.aload_n 0, 1) := by decide +kernel
theorem dX2_lasting_1 : decode cX2_lasting 1 = .ok (.getfield 13, 3) := by decide +kernel
theorem dX2_lasting_4 : decode cX2_lasting 4 = .ok (.iconst 5, 1) := by decide +kernel
theorem dX2_lasting_5 : decode cX2_lasting 5 = .ok (.iaload, 1) := by decide +kernel
theorem dX2_lasting_6 : decode cX2_lasting 6 = .ok (.iconst 1, 1) := by decide +kernel
theorem dX2_lasting_7 : decode cX2_lasting 7 = .ok (.iadd, 1) := by decide +kernel
theorem dX2_lasting_8 : decode cX2_lasting 8 = .ok (.istore_n 1, 1) := by decide +kernel
theorem dX2_lasting_9 : decode cX2_lasting 9 = .ok (.aload_n 0, 1) := by decide +kernel
theorem dX2_lasting_10 : decode cX2_lasting 10 = .ok (.getfield 13, 3) := by decide +kernel
theorem dX2_lasting_13 : decode cX2_lasting 13 = .ok (.iconst 5, 1) := by decide +kernel
theorem dX2_lasting_14 : decode cX2_lasting 14 = .ok (.iaload, 1) := by decide +kernel
theorem dX2_lasting_15 : decode cX2_lasting 15 = .ok (.iconst 2, 1) := by decide +kernel
theorem dX2_lasting_16 : decode cX2_lasting 16 = .ok (.idiv, 1) := by decide +kernel
theorem dX2_lasting_17 : decode cX2_lasting 17 = .ok (.iconst 1, 1) := by decide +kernel
theorem dX2_lasting_18 : decode cX2_lasting 18 = .ok (.iadd, 1) := by decide +kernel
theorem dX2_lasting_19 : decode cX2_lasting 19 = .ok (.istore_n 2, 1) := by decide +kernel
theorem dX2_lasting_20 : decode cX2_lasting 20 = .ok (.aload_n 0, 1) := by decide +kernel
theorem dX2_lasting_21 : decode cX2_lasting 21 = .ok (.getfield 13, 3) := by decide +kernel
theorem dX2_lasting_24 : decode cX2_lasting 24 = .ok (.iconst 0, 1) := by decide +kernel
theorem dX2_lasting_25 : decode cX2_lasting 25 = .ok (.iaload, 1) := by decide +kernel
theorem dX2_lasting_26 : decode cX2_lasting 26 = .ok (.tableswitch 60 1 6 #[38, 52, 40, 40, 58, 54], 38) := by decide +kernel
theorem dX2_lasting_64 : decode cX2_lasting 64 = .ok (.iload_n 1, 1) := by decide +kernel
theorem dX2_lasting_65 : decode cX2_lasting 65 = .ok (.ireturn, 1) := by decide +kernel
theorem dX2_lasting_66 : decode cX2_lasting 66 = .ok (.iload_n 1, 1) := by decide +kernel
theorem dX2_lasting_67 : decode cX2_lasting 67 = .ok (.aload_n 0, 1) := by decide +kernel
theorem dX2_lasting_68 : decode cX2_lasting 68 = .ok (.getfield 13, 3) := by decide +kernel
theorem dX2_lasting_71 : decode cX2_lasting 71 = .ok (.iconst 4, 1) := by decide +kernel
theorem dX2_lasting_72 : decode cX2_lasting 72 = .ok (.iaload, 1) := by decide +kernel
theorem dX2_lasting_73 : decode cX2_lasting 73 = .ok (.bipush 20, 2) := by decide +kernel
theorem dX2_lasting_75 : decode cX2_lasting 75 = .ok (.idiv, 1) := by decide +kernel
theorem dX2_lasting_76 : decode cX2_lasting 76 = .ok (.iadd, 1) := by decide +kernel
theorem dX2_lasting_77 : decode cX2_lasting 77 = .ok (.ireturn, 1) := by decide +kernel
theorem dX2_lasting_78 : decode cX2_lasting 78 = .ok (.iload_n 2, 1) := by decide +kernel
theorem dX2_lasting_79 : decode cX2_lasting 79 = .ok (.ireturn, 1) := by decide +kernel
theorem dX2_lasting_80 : decode cX2_lasting 80 = .ok (.iload_n 2, 1) := by decide +kernel
theorem dX2_lasting_81 : decode cX2_lasting 81 = .ok (.iconst 2, 1) := by decide +kernel
theorem dX2_lasting_82 : decode cX2_lasting 82 = .ok (.iadd, 1) := by decide +kernel
theorem dX2_lasting_83 : decode cX2_lasting 83 = .ok (.ireturn, 1) := by decide +kernel
theorem dX2_lasting_84 : decode cX2_lasting 84 = .ok (.iconst 1, 1) := by decide +kernel
theorem dX2_lasting_85 : decode cX2_lasting 85 = .ok (.ireturn, 1) := by decide +kernel
theorem dX2_lasting_86 : decode cX2_lasting 86 = .ok (.aload_n 0, 1) := by decide +kernel
theorem dX2_lasting_87 : decode cX2_lasting 87 = .ok (.getfield 13, 3) := by decide +kernel
theorem dX2_lasting_90 : decode cX2_lasting 90 = .ok (.iconst 5, 1) := by decide +kernel
theorem dX2_lasting_91 : decode cX2_lasting 91 = .ok (.iaload, 1) := by decide +kernel
theorem dX2_lasting_92 : decode cX2_lasting 92 = .ok (.ireturn, 1) := by decide +kernel
theorem dX2_selling_0 : decode cX2_selling 0 = .ok (.aload_n 0, 1) := by decide +kernel
theorem dX2_selling_1 : decode cX2_selling 1 = .ok (.getfield 13, 3) := by decide +kernel
theorem dX2_selling_4 : decode cX2_selling 4 = .ok (.iconst 3, 1) := by decide +kernel
theorem dX2_selling_5 : decode cX2_selling 5 = .ok (.iaload, 1) := by decide +kernel
theorem dX2_selling_6 : decode cX2_selling 6 = .ok (.bipush 10, 2) := by decide +kernel
theorem dX2_selling_8 : decode cX2_selling 8 = .ok (.idiv, 1) := by decide +kernel
theorem dX2_selling_9 : decode cX2_selling 9 = .ok (.istore_n 3, 1) := by decide +kernel
theorem dX2_selling_10 : decode cX2_selling 10 = .ok (.iload_n 1, 1) := by decide +kernel
theorem dX2_selling_11 : decode cX2_selling 11 = .ok (.ifCond .eq 9, 3) := by decide +kernel
theorem dX2_selling_14 : decode cX2_selling 14 = .ok (.iload_n 3, 1) := by decide +kernel
theorem dX2_selling_15 : decode cX2_selling 15 = .ok (.iconst 1, 1) := by decide +kernel
theorem dX2_selling_16 : decode cX2_selling 16 = .ok (.iadd, 1) := by decide +kernel
theorem dX2_selling_17 : decode cX2_selling 17 = .ok (.goto 4, 3) := by decide +kernel
theorem dX2_selling_20 : decode cX2_selling 20 = .ok (.iload_n 3, 1) := by decide +kernel
theorem dX2_selling_21 : decode cX2_selling 21 = .ok (.istore 4, 2) := by decide +kernel
theorem dX2_selling_23 : decode cX2_selling 23 = .ok (.aload_n 0, 1) := by decide +kernel
theorem dX2_selling_24 : decode cX2_selling 24 = .ok (.getfield 13, 3) := by decide +kernel
theorem dX2_selling_27 : decode cX2_selling 27 = .ok (.iconst 0, 1) := by decide +kernel
theorem dX2_selling_28 : decode cX2_selling 28 = .ok (.iaload, 1) := by decide +kernel
theorem dX2_selling_29 : decode cX2_selling 29 = .ok (.tableswitch 62 1 6 #[39, 54, 39, 42, 58, 56], 39) := by decide +kernel
theorem dX2_selling_68 : decode cX2_selling 68 = .ok (.iload 4, 2) := by decide +kernel
theorem dX2_selling_70 : decode cX2_selling 70 = .ok (.ireturn, 1) := by decide +kernel
theorem dX2_selling_71 : decode cX2_selling 71 = .ok (.iload_n 2, 1) := by decide +kernel
theorem dX2_selling_72 : decode cX2_selling 72 = .ok (.ifCond .eq 8, 3) := by decide +kernel
theorem dX2_selling_75 : decode cX2_selling 75 = .ok (.bipush 16, 2) := by decide +kernel
theorem dX2_selling_77 : decode cX2_selling 77 = .ok (.goto 5, 3) := by decide +kernel
theorem dX2_selling_80 : decode cX2_selling 80 = .ok (.iload 4, 2) := by decide +kernel
theorem dX2_selling_82 : decode cX2_selling 82 = .ok (.ireturn, 1) := by decide +kernel
theorem dX2_selling_83 : decode cX2_selling 83 = .ok (.iconst 1, 1) := by decide +kernel
theorem dX2_selling_84 : decode cX2_selling 84 = .ok (.ireturn, 1) := by decide +kernel
theorem dX2_selling_85 : decode cX2_selling 85 = .ok (.iconst 3, 1) := by decide +kernel
theorem dX2_selling_86 : decode cX2_selling 86 = .ok (.ireturn, 1) := by decide +kernel
theorem dX2_selling_87 : decode cX2_selling 87 = .ok (.iload_n 3, 1) := by decide +kernel
theorem dX2_selling_88 : decode cX2_selling 88 = .ok (.iconst 3, 1) := by decide +kernel
theorem dX2_selling_89 : decode cX2_selling 89 = .ok (.iadd, 1) := by decide +kernel
theorem dX2_selling_90 : decode cX2_selling 90 = .ok (.ireturn, 1) := by decide +kernel
theorem dX2_selling_91 : decode cX2_selling 91 = .ok (.iload_n 3, 1) := by decide +kernel
theorem dX2_selling_92 : decode cX2_selling 92 = .ok (.ireturn, 1) := by decide +kernel
theorem dX2_wearing_0 : decode cX2_wearing 0 = .ok (.aload_n 0, 1) := by decide +kernel
theorem dX2_wearing_1 : decode cX2_wearing 1 = .ok (.getfield 13, 3) := by decide +kernel
theorem dX2_wearing_4 : decode cX2_wearing 4 = .ok (.iconst 0, 1) := by decide +kernel
theorem dX2_wearing_5 : decode cX2_wearing 5 = .ok (.iaload, 1) := by decide +kernel
theorem dX2_wearing_6 : decode cX2_wearing 6 = .ok (.tableswitch 60 2 6 #[38, 34, 36, 42, 40], 34) := by decide +kernel
theorem dX2_wearing_40 : decode cX2_wearing 40 = .ok (.iconst 4, 1) := by decide +kernel
theorem dX2_wearing_41 : decode cX2_wearing 41 = .ok (.ireturn, 1) := by decide +kernel
theorem dX2_wearing_42 : decode cX2_wearing 42 = .ok (.iconst 3, 1) := by decide +kernel
theorem dX2_wearing_43 : decode cX2_wearing 43 = .ok (.ireturn, 1) := by decide +kernel
theorem dX2_wearing_44 : decode cX2_wearing 44 = .ok (.iconst 0, 1) := by decide +kernel
theorem dX2_wearing_45 : decode cX2_wearing 45 = .ok (.ireturn, 1) := by decide +kernel
theorem dX2_wearing_46 : decode cX2_wearing 46 = .ok (.iconst 1, 1) := by decide +kernel
theorem dX2_wearing_47 : decode cX2_wearing 47 = .ok (.ireturn, 1) := by decide +kernel
theorem dX2_wearing_48 : decode cX2_wearing 48 = .ok (.aload_n 0, 1) := by decide +kernel
theorem dX2_wearing_49 : decode cX2_wearing 49 = .ok (.getfield 13, 3) := by decide +kernel
theorem dX2_wearing_52 : decode cX2_wearing 52 = .ok (.iconst 4, 1) := by decide +kernel
theorem dX2_wearing_53 : decode cX2_wearing 53 = .ok (.iaload, 1) := by decide +kernel
theorem dX2_wearing_54 : decode cX2_wearing 54 = .ok (.bipush 15, 2) := by decide +kernel
theorem dX2_wearing_56 : decode cX2_wearing 56 = .ok (.if_icmp .lt 7, 3) := by decide +kernel
theorem dX2_wearing_59 : decode cX2_wearing 59 = .ok (.iconst 0, 1) := by decide +kernel
theorem dX2_wearing_60 : decode cX2_wearing 60 = .ok (.goto 5, 3) := by decide +kernel
theorem dX2_wearing_63 : decode cX2_wearing 63 = .ok (.bipush (-5), 2) := by decide +kernel
theorem dX2_wearing_65 : decode cX2_wearing 65 = .ok (.ireturn, 1) := by decide +kernel
theorem dX2_wearing_66 : decode cX2_wearing 66 = .ok (.iconst 2, 1) := by decide +kernel
theorem dX2_wearing_67 : decode cX2_wearing 67 = .ok (.ireturn, 1) := by decide +kernel
theorem dX2_growOlder_0 : decode cX2_growOlder 0 = .ok (.aload_n 0, 1) := by decide +kernel
theorem dX2_growOlder_1 : decode cX2_growOlder 1 = .ok (.getfield 13, 3) := by decide +kernel
theorem dX2_growOlder_4 : decode cX2_growOlder 4 = .ok (.iconst 3, 1) := by decide +kernel
theorem dX2_growOlder_5 : decode cX2_growOlder 5 = .ok (.iconst 0, 1) := by decide +kernel
theorem dX2_growOlder_6 : decode cX2_growOlder 6 = .ok (.aload_n 0, 1) := by decide +kernel
theorem dX2_growOlder_7 : decode cX2_growOlder 7 = .ok (.getfield 13, 3) := by decide +kernel
theorem dX2_growOlder_10 : decode cX2_growOlder 10 = .ok (.iconst 3, 1) := by decide +kernel
theorem dX2_growOlder_11 : decode cX2_growOlder 11 = .ok (.iaload, 1) := by decide +kernel
theorem dX2_growOlder_12 : decode cX2_growOlder 12 = .ok (.aload_n 0, 1) := by decide +kernel
theorem dX2_growOlder_13 : decode cX2_growOlder 13 = .ok (.invokevirtual 51, 3) := by decide +kernel
theorem dX2_growOlder_16 : decode cX2_growOlder 16 = .ok (.isub, 1) := by decide +kernel
theorem dX2_growOlder_17 : decode cX2_growOlder 17 = .ok (.bipush 99, 2) := by decide +kernel
theorem dX2_growOlder_19 : decode cX2_growOlder 19 = .ok (.invokestatic 45, 3) := by decide +kernel
theorem dX2_growOlder_22 : decode cX2_growOlder 22 = .ok (.invokestatic 54, 3) := by decide +kernel
theorem dX2_growOlder_25 : decode cX2_growOlder 25 = .ok (.iastore, 1) := by decide +kernel
theorem dX2_growOlder_26 : decode cX2_growOlder 26 = .ok (.aload_n 0, 1) := by decide +kernel
theorem dX2_growOlder_27 : decode cX2_growOlder 27 = .ok (.getfield 13, 3) := by decide +kernel
theorem dX2_growOlder_30 : decode cX2_growOlder 30 = .ok (.iconst 4, 1) := by decide +kernel
theorem dX2_growOlder_31 : decode cX2_growOlder 31 = .ok (.aload_n 0, 1) := by decide +kernel
theorem dX2_growOlder_32 : decode cX2_growOlder 32 = .ok (.getfield 13, 3) := by decide +kernel
theorem dX2_growOlder_35 : decode cX2_growOlder 35 = .ok (.iconst 4, 1) := by decide +kernel
theorem dX2_growOlder_36 : decode cX2_growOlder 36 = .ok (.iaload, 1) := by decide +kernel
theorem dX2_growOlder_37 : decode cX2_growOlder 37 = .ok (.iconst 1, 1) := by decide +kernel
theorem dX2_growOlder_38 : decode cX2_growOlder 38 = .ok (.iadd, 1) := by decide +kernel
theorem dX2_growOlder_39 : decode cX2_growOlder 39 = .ok (.bipush 120, 2) := by decide +kernel
theorem dX2_growOlder_41 : decode cX2_growOlder 41 = .ok (.invokestatic 45, 3) := by decide +kernel
theorem dX2_growOlder_44 : decode cX2_growOlder 44 = .ok (.iastore, 1) := by decide +kernel
theorem dX2_growOlder_45 : decode cX2_growOlder 45 = .ok (.return_, 1) := by decide +kernel
theorem dX3_init_0 : decode cX3_init 0 = .ok (.aload_n 0, 1) := by decide +kernel
theorem dX3_init_1 : decode cX3_init 1 = .ok (.invokespecial 1, 3) := by decide +kernel
theorem dX3_init_4 : decode cX3_init 4 = .ok (.aload_n 0, 1) := by decide +kernel
theorem dX3_init_5 : decode cX3_init 5 = .ok (.bipush 8, 2) := by decide +kernel
theorem dX3_init_7 : decode cX3_init 7 = .ok (.anewarray 9, 3) := by decide +kernel
theorem dX3_init_10 : decode cX3_init 10 = .ok (.putfield 11, 3) := by decide +kernel
theorem dX3_init_13 : decode cX3_init 13 = .ok (.aload_n 0, 1) := by decide +kernel
theorem dX3_init_14 : decode cX3_init 14 = .ok (.bipush 10, 2) := by decide +kernel
theorem dX3_init_16 : decode cX3_init 16 = .ok (.newarray .int, 2) := by decide +kernel
theorem dX3_init_18 : decode cX3_init 18 = .ok (.putfield 15, 3) := by decide +kernel
theorem dX3_init_21 : decode cX3_init 21 = .ok (.aload_n 0, 1) := by decide +kernel
theorem dX3_init_22 : decode cX3_init 22 = .ok (.iconst 0, 1) := by decide +kernel
theorem dX3_init_23 : decode cX3_init 23 = .ok (.putfield 19, 3) := by decide +kernel
theorem dX3_init_26 : decode cX3_init 26 = .ok (.aload_n 0, 1) := by decide +kernel
theorem dX3_init_27 : decode cX3_init 27 = .ok (.iconst 0, 1) := by decide +kernel
theorem dX3_init_28 : decode cX3_init 28 = .ok (.putfield 23, 3) := by decide +kernel
theorem dX3_init_31 : decode cX3_init 31 = .ok (.aload_n 0, 1) := by decide +kernel
theorem dX3_init_32 : decode cX3_init 32 = .ok (.iconst 0, 1) := by decide +kernel
theorem dX3_init_33 : decode cX3_init 33 = .ok (.putfield 26, 3) := by decide +kernel
theorem dX3_init_36 : decode cX3_init 36 = .ok (.aload_n 0, 1) := by decide +kernel
theorem dX3_init_37 : decode cX3_init 37 = .ok (.iconst 1, 1) := by decide +kernel
theorem dX3_init_38 : decode cX3_init 38 = .ok (.putfield 29, 3) := by decide +kernel
theorem dX3_init_41 : decode cX3_init 41 = .ok (.iconst 0, 1) := by decide +kernel
theorem dX3_init_42 : decode cX3_init 42 = .ok (.istore_n 1, 1) := by decide +kernel
theorem dX3_init_43 : decode cX3_init 43 = .ok (.iload_n 1, 1) := by decide +kernel
theorem dX3_init_44 : decode cX3_init 44 = .ok (.bipush 8, 2) := by decide +kernel
theorem dX3_init_46 : decode cX3_init 46 = .ok (.if_icmp .ge 22, 3) := by decide +kernel
theorem dX3_init_49 : decode cX3_init 49 = .ok (.aload_n 0, 1) := by decide +kernel
theorem dX3_init_50 : decode cX3_init 50 = .ok (.getfield 11, 3) := by decide +kernel
theorem dX3_init_53 : decode cX3_init 53 = .ok (.iload_n 1, 1) := by decide +kernel
theorem dX3_init_54 : decode cX3_init 54 = .ok (.new 9, 3) := by decide +kernel
theorem dX3_init_57 : decode cX3_init 57 = .ok (.dup, 1) := by decide +kernel
theorem dX3_init_58 : decode cX3_init 58 = .ok (.invokespecial 32, 3) := by decide +kernel
theorem dX3_init_61 : decode cX3_init 61 = .ok (.aastore, 1) := by decide +kernel
theorem dX3_init_62 : decode cX3_init 62 = .ok (.iinc 1 1, 3) := by decide +kernel
theorem dX3_init_65 : decode cX3_init 65 = .ok (.goto (-22), 3) := by decide +kernel
theorem dX3_init_68 : decode cX3_init 68 = .ok (.iconst 0, 1) := by decide +kernel
theorem dX3_init_69 : decode cX3_init 69 = .ok (.istore_n 1, 1) := by decide +kernel
theorem dX3_init_70 : decode cX3_init 70 = .ok (.iload_n 1, 1) := by decide +kernel
theorem dX3_init_71 : decode cX3_init 71 = .ok (.bipush 10, 2) := by decide +kernel
theorem dX3_init_73 : decode cX3_init 73 = .ok (.if_icmp .ge 16, 3) := by decide +kernel
theorem dX3_init_76 : decode cX3_init 76 = .ok (.aload_n 0, 1) := by decide +kernel
theorem dX3_init_77 : decode cX3_init 77 = .ok (.getfield 15, 3) := by decide +kernel
theorem dX3_init_80 : decode cX3_init 80 = .ok (.iload_n 1, 1) := by decide +kernel
theorem dX3_init_81 : decode cX3_init 81 = .ok (.iconst (-1), 1) := by decide +kernel
theorem dX3_init_82 : decode cX3_init 82 = .ok (.iastore, 1) := by decide +kernel
theorem dX3_init_83 : decode cX3_init 83 = .ok (.iinc 1 1, 3) := by decide +kernel
theorem dX3_init_86 : decode cX3_init 86 = .ok (.goto (-16), 3) := by decide +kernel
theorem dX3_init_89 : decode cX3_init 89 = .ok (.return_, 1) := by decide +kernel
theorem dX3_become_0 : decode cX3_become 0 = .ok (.aload_n 0, 1) := by decide +kernel
theorem dX3_become_1 : decode cX3_become 1 = .ok (.aload_n 1, 1) := by decide +kernel
theorem dX3_become_2 : decode cX3_become 2 = .ok (.getfield 19, 3) := by decide +kernel
theorem dX3_become_5 : decode cX3_become 5 = .ok (.putfield 19, 3) := by decide +kernel
theorem dX3_become_8 : decode cX3_become 8 = .ok (.aload_n 0, 1) := by decide +kernel
theorem dX3_become_9 : decode cX3_become 9 = .ok (.aload_n 1, 1) := by decide +kernel
theorem dX3_become_10 : decode cX3_become 10 = .ok (.getfield 23, 3) := by decide +kernel
theorem dX3_become_13 : decode cX3_become 13 = .ok (.putfield 23, 3) := by decide +kernel
theorem dX3_become_16 : decode cX3_become 16 = .ok (.aload_n 0, 1) := by decide +kernel
theorem dX3_become_17 : decode cX3_become 17 = .ok (.aload_n 1, 1) := by decide +kernel
theorem dX3_become_18 : decode cX3_become 18 = .ok (.getfield 26, 3) := by decide +kernel
theorem dX3_become_21 : decode cX3_become 21 = .ok (.putfield 26, 3) := by decide +kernel
theorem dX3_become_24 : decode cX3_become 24 = .ok (.aload_n 0, 1) := by decide +kernel
theorem dX3_become_25 : decode cX3_become 25 = .ok (.aload_n 1, 1) := by decide +kernel
theorem dX3_become_26 : decode cX3_become 26 = .ok (.getfield 29, 3) := by decide +kernel
theorem dX3_become_29 : decode cX3_become 29 = .ok (.putfield 29, 3) := by decide +kernel
theorem dX3_become_32 : decode cX3_become 32 = .ok (.iconst 0, 1) := by decide +kernel
theorem dX3_become_33 : decode cX3_become 33 = .ok (.istore_n 2, 1) := by decide +kernel
theorem dX3_become_34 : decode cX3_become 34 = .ok (.iload_n 2, 1) := by decide +kernel
theorem dX3_become_35 : decode cX3_become 35 = .ok (.aload_n 0, 1) := by decide +kernel
theorem dX3_become_36 : decode cX3_become 36 = .ok (.getfield 19, 3) := by decide +kernel
theorem dX3_become_39 : decode cX3_become 39 = .ok (.if_icmp .ge 24, 3) := by decide +kernel
theorem dX3_become_42 : decode cX3_become 42 = .ok (.aload_n 0, 1) := by decide +kernel
theorem dX3_become_43 : decode cX3_become 43 = .ok (.getfield 11, 3) := by decide +kernel
theorem dX3_become_46 : decode cX3_become 46 = .ok (.iload_n 2, 1) := by decide +kernel
theorem dX3_become_47 : decode cX3_become 47 = .ok (.aaload, 1) := by decide +kernel
theorem dX3_become_48 : decode cX3_become 48 = .ok (.aload_n 1, 1) := by decide +kernel
theorem dX3_become_49 : decode cX3_become 49 = .ok (.getfield 11, 3) := by decide +kernel
theorem dX3_become_52 : decode cX3_become 52 = .ok (.iload_n 2, 1) := by decide +kernel
theorem dX3_become_53 : decode cX3_become 53 = .ok (.aaload, 1) := by decide +kernel
theorem dX3_become_54 : decode cX3_become 54 = .ok (.invokevirtual 33, 3) := by decide +kernel
theorem dX3_become_57 : decode cX3_become 57 = .ok (.iinc 2 1, 3) := by decide +kernel
theorem dX3_become_60 : decode cX3_become 60 = .ok (.goto (-26), 3) := by decide +kernel
theorem dX3_become_63 : decode cX3_become 63 = .ok (.aload_n 1, 1) := by decide +kernel
theorem dX3_become_64 : decode cX3_become 64 = .ok (.getfield 15, 3) := by decide +kernel
theorem dX3_become_67 : decode cX3_become 67 = .ok (.iconst 0, 1) := by decide +kernel
theorem dX3_become_68 : decode cX3_become 68 = .ok (.aload_n 0, 1) := by decide +kernel
theorem dX3_become_69 : decode cX3_become 69 = .ok (.getfield 15, 3) := by decide +kernel
theorem dX3_become_72 : decode cX3_become 72 = .ok (.iconst 0, 1) := by decide +kernel
theorem dX3_become_73 : decode cX3_become 73 = .ok (.bipush 10, 2) := by decide +kernel
theorem dX3_become_75 : decode cX3_become 75 = .ok (.invokestatic 37, 3) := by decide +kernel
theorem dX3_become_78 : decode cX3_become 78 = .ok (.return_, 1) := by decide +kernel
theorem dX3_has_0 : decode cX3_has 0 = .ok (.iload_n 1, 1) := by decide +kernel
theorem dX3_has_1 : decode cX3_has 1 = .ok (.ifCond .lt 15, 3) := by decide +kernel
theorem dX3_has_4 : decode cX3_has 4 = .ok (.iload_n 1, 1) := by decide +kernel
theorem dX3_has_5 : decode cX3_has 5 = .ok (.aload_n 0, 1) := by decide +kernel
theorem dX3_has_6 : decode cX3_has 6 = .ok (.getfield 19, 3) := by decide +kernel
theorem dX3_has_9 : decode cX3_has 9 = .ok (.if_icmp .ge 7, 3) := by decide +kernel
theorem dX3_has_12 : decode cX3_has 12 = .ok (.iconst 1, 1) := by decide +kernel
theorem dX3_has_13 : decode cX3_has 13 = .ok (.goto 4, 3) := by decide +kernel
theorem dX3_has_16 : decode cX3_has 16 = .ok (.iconst 0, 1) := by decide +kernel
theorem dX3_has_17 : decode cX3_has 17 = .ok (.ireturn, 1) := by decide +kernel
theorem dX3_isFull_0 : decode cX3_isFull 0 = .ok (.aload_n 0, 1) := by decide +kernel
theorem dX3_isFull_1 : decode cX3_isFull 1 = .ok (.getfield 19, 3) := by decide +kernel
theorem dX3_isFull_4 : decode cX3_isFull 4 = .ok (.bipush 8, 2) := by decide +kernel
theorem dX3_isFull_6 : decode cX3_isFull 6 = .ok (.if_icmp .lt 7, 3) := by decide +kernel
theorem dX3_isFull_9 : decode cX3_isFull 9 = .ok (.iconst 1, 1) := by decide +kernel
theorem dX3_isFull_10 : decode cX3_isFull 10 = .ok (.goto 4, 3) := by decide +kernel
theorem dX3_isFull_13 : decode cX3_isFull 13 = .ok (.iconst 0, 1) := by decide +kernel
theorem dX3_isFull_14 : decode cX3_isFull 14 = .ok (.ireturn, 1) := by decide +kernel
theorem dX3_add_0 : decode cX3_add 0 = .ok (.aload_n 0, 1) := by decide +kernel
theorem dX3_add_1 : decode cX3_add 1 = .ok (.invokevirtual 43, 3) := by decide +kernel
theorem dX3_add_4 : decode cX3_add 4 = .ok (.ifCond .eq 5, 3) := by decide +kernel
theorem dX3_add_7 : decode cX3_add 7 = .ok (.iconst (-1), 1) := by decide +kernel
theorem dX3_add_8 : decode cX3_add 8 = .ok (.ireturn, 1) := by decide +kernel
theorem dX3_add_9 : decode cX3_add 9 = .ok (.aload_n 0, 1) := by decide +kernel
theorem dX3_add_10 : decode cX3_add 10 = .ok (.getfield 11, 3) := by decide +kernel
theorem dX3_add_13 : decode cX3_add 13 = .ok (.aload_n 0, 1) := by decide +kernel
theorem dX3_add_14 : decode cX3_add 14 = .ok (.getfield 19, 3) := by decide +kernel
theorem dX3_add_17 : decode cX3_add 17 = .ok (.aaload, 1) := by decide +kernel
theorem dX3_add_18 : decode cX3_add 18 = .ok (.invokevirtual 47, 3) := by decide +kernel
theorem dX3_add_21 : decode cX3_add 21 = .ok (.aload_n 0, 1) := by decide +kernel
theorem dX3_add_22 : decode cX3_add 22 = .ok (.getfield 11, 3) := by decide +kernel
theorem dX3_add_25 : decode cX3_add 25 = .ok (.aload_n 0, 1) := by decide +kernel
theorem dX3_add_26 : decode cX3_add 26 = .ok (.getfield 19, 3) := by decide +kernel
theorem dX3_add_29 : decode cX3_add 29 = .ok (.aaload, 1) := by decide +kernel
theorem dX3_add_30 : decode cX3_add 30 = .ok (.getfield 50, 3) := by decide +kernel
theorem dX3_add_33 : decode cX3_add 33 = .ok (.iconst 0, 1) := by decide +kernel
theorem dX3_add_34 : decode cX3_add 34 = .ok (.iload_n 1, 1) := by decide +kernel
theorem dX3_add_35 : decode cX3_add 35 = .ok (.iastore, 1) := by decide +kernel
theorem dX3_add_36 : decode cX3_add 36 = .ok (.aload_n 0, 1) := by decide +kernel
theorem dX3_add_37 : decode cX3_add 37 = .ok (.getfield 11, 3) := by decide +kernel
theorem dX3_add_40 : decode cX3_add 40 = .ok (.aload_n 0, 1) := by decide +kernel
theorem dX3_add_41 : decode cX3_add 41 = .ok (.getfield 19, 3) := by decide +kernel
theorem dX3_add_44 : decode cX3_add 44 = .ok (.aaload, 1) := by decide +kernel
theorem dX3_add_45 : decode cX3_add 45 = .ok (.getfield 50, 3) := by decide +kernel
theorem dX3_add_48 : decode cX3_add 48 = .ok (.iconst 1, 1) := by decide +kernel
theorem dX3_add_49 : decode cX3_add 49 = .ok (.iload_n 2, 1) := by decide +kernel
theorem dX3_add_50 : decode cX3_add 50 = .ok (.iastore, 1) := by decide +kernel
theorem dX3_add_51 : decode cX3_add 51 = .ok (.aload_n 0, 1) := by decide +kernel
theorem dX3_add_52 : decode cX3_add 52 = .ok (.dup, 1) := by decide +kernel
theorem dX3_add_53 : decode cX3_add 53 = .ok (.getfield 19, 3) := by decide +kernel
theorem dX3_add_56 : decode cX3_add 56 = .ok (.iconst 1, 1) := by decide +kernel
theorem dX3_add_57 : decode cX3_add 57 = .ok (.iadd, 1) := by decide +kernel
theorem dX3_add_58 : decode cX3_add 58 = .ok (.putfield 19, 3) := by decide +kernel
theorem dX3_add_61 : decode cX3_add 61 = .ok (.aload_n 0, 1) := by decide +kernel
theorem dX3_add_62 : decode cX3_add 62 = .ok (.getfield 19, 3) := by decide +kernel
theorem dX3_add_65 : decode cX3_add 65 = .ok (.iconst 1, 1) := by decide +kernel
theorem dX3_add_66 : decode cX3_add 66 = .ok (.isub, 1) := by decide +kernel
theorem dX3_add_67 : decode cX3_add 67 = .ok (.ireturn, 1) := by decide +kernel
theorem dX3_look_0 : decode cX3_look 0 = .ok (.aload_n 0, 1) := by decide +kernel
theorem dX3_look_1 : decode cX3_look 1 = .ok (.iload_n 1, 1) := by decide +kernel
theorem dX3_look_2 : decode cX3_look 2 = .ok (.invokevirtual 53, 3) := by decide +kernel
theorem dX3_look_5 : decode cX3_look 5 = .ok (.ifCond .ne 5, 3) := by decide +kernel
theorem dX3_look_8 : decode cX3_look 8 = .ok (.iconst 0, 1) := by decide +kernel
theorem dX3_look_9 : decode cX3_look 9 = .ok (.ireturn, 1) := by decide +kernel
theorem dX3_look_10 : decode cX3_look 10 = .ok (.iload_n 2, 1) := by decide +kernel
theorem dX3_look_11 : decode cX3_look 11 = .ok (.tableswitch 69 10 13 #[29, 39, 49, 59], 29) := by decide +kernel
theorem dX3_look_40 : decode cX3_look 40 = .ok (.aload_n 0, 1) := by decide +kernel
theorem dX3_look_41 : decode cX3_look 41 = .ok (.getfield 11, 3) := by decide +kernel
theorem dX3_look_44 : decode cX3_look 44 = .ok (.iload_n 1, 1) := by decide +kernel
theorem dX3_look_45 : decode cX3_look 45 = .ok (.aaload, 1) := by decide +kernel
theorem dX3_look_46 : decode cX3_look 46 = .ok (.invokevirtual 57, 3) := by decide +kernel
theorem dX3_look_49 : decode cX3_look 49 = .ok (.ireturn, 1) := by decide +kernel
theorem dX3_look_50 : decode cX3_look 50 = .ok (.aload_n 0, 1) := by decide +kernel
theorem dX3_look_51 : decode cX3_look 51 = .ok (.getfield 11, 3) := by decide +kernel
theorem dX3_look_54 : decode cX3_look 54 = .ok (.iload_n 1, 1) := by decide +kernel
theorem dX3_look_55 : decode cX3_look 55 = .ok (.aaload, 1) := by decide +kernel
theorem dX3_look_56 : decode cX3_look 56 = .ok (.invokevirtual 61, 3) := by decide +kernel
theorem dX3_look_59 : decode cX3_look 59 = .ok (.ireturn, 1) := by decide +kernel
theorem dX3_look_60 : decode cX3_look 60 = .ok (.aload_n 0, 1) := by decide +kernel
theorem dX3_look_61 : decode cX3_look 61 = .ok (.iload_n 1, 1) := by decide +kernel
theorem dX3_look_62 : decode cX3_look 62 = .ok (.aload_n 0, 1) := by decide +kernel
theorem dX3_look_63 : decode cX3_look 63 = .ok (.invokevirtual 64, 3) := by decide +kernel
theorem dX3_look_66 : decode cX3_look 66 = .ok (.invokevirtual 67, 3) := by decide +kernel
theorem dX3_look_69 : decode cX3_look 69 = .ok (.ireturn, 1) := by decide +kernel
theorem dX3_look_70 : decode cX3_look 70 = .ok (.aload_n 0, 1) := by decide +kernel
theorem dX3_look_71 : decode cX3_look 71 = .ok (.getfield 11, 3) := by decide +kernel
theorem dX3_look_74 : decode cX3_look 74 = .ok (.iload_n 1, 1) := by decide +kernel
theorem dX3_look_75 : decode cX3_look 75 = .ok (.aaload, 1) := by decide +kernel
theorem dX3_look_76 : decode cX3_look 76 = .ok (.invokevirtual 71, 3) := by decide +kernel
theorem dX3_look_79 : decode cX3_look 79 = .ok (.ireturn, 1) := by decide +kernel
theorem dX3_look_80 : decode cX3_look 80 = .ok (.iload_n 2, 1) := by decide +kernel
theorem dX3_look_81 : decode cX3_look 81 = .ok (.iconst 0, 1) := by decide +kernel
theorem dX3_look_82 : decode cX3_look 82 = .ok (.bipush 9, 2) := by decide +kernel
theorem dX3_look_84 : decode cX3_look 84 = .ok (.invokestatic 74, 3) := by decide +kernel
theorem dX3_look_87 : decode cX3_look 87 = .ok (.ifCond .eq 17, 3) := by decide +kernel
theorem dX3_look_90 : decode cX3_look 90 = .ok (.aload_n 0, 1) := by decide +kernel
theorem dX3_look_91 : decode cX3_look 91 = .ok (.getfield 11, 3) := by decide +kernel
theorem dX3_look_94 : decode cX3_look 94 = .ok (.iload_n 1, 1) := by decide +kernel
theorem dX3_look_95 : decode cX3_look 95 = .ok (.aaload, 1) := by decide +kernel
theorem dX3_look_96 : decode cX3_look 96 = .ok (.getfield 50, 3) := by decide +kernel
theorem dX3_look_99 : decode cX3_look 99 = .ok (.iload_n 2, 1) := by decide +kernel
theorem dX3_look_100 : decode cX3_look 100 = .ok (.iaload, 1) := by decide +kernel
theorem dX3_look_101 : decode cX3_look 101 = .ok (.goto 4, 3) := by decide +kernel
theorem dX3_look_104 : decode cX3_look 104 = .ok (.iconst 0, 1) := by decide +kernel
theorem dX3_look_105 : decode cX3_look 105 = .ok (.ireturn, 1) := by decide +kernel
theorem dX3_canBe_0 : decode cX3_canBe 0 = .ok (.iload_n 2, 1) := by decide +kernel
theorem dX3_canBe_1 : decode cX3_canBe 1 = .ok (.iload_n 3, 1) := by decide +kernel
theorem dX3_canBe_2 : decode cX3_canBe 2 = .ok (.invokestatic 80, 3) := by decide +kernel
theorem dX3_canBe_5 : decode cX3_canBe 5 = .ok (.ifCond .ne 5, 3) := by decide +kernel
theorem dX3_canBe_8 : decode cX3_canBe 8 = .ok (.iconst 0, 1) := by decide +kernel
theorem dX3_canBe_9 : decode cX3_canBe 9 = .ok (.ireturn, 1) := by decide +kernel
theorem dX3_canBe_10 : decode cX3_canBe 10 = .ok (.iload_n 2, 1) := by decide +kernel
theorem dX3_canBe_11 : decode cX3_canBe 11 = .ok (.iconst 2, 1) := by decide +kernel
theorem dX3_canBe_12 : decode cX3_canBe 12 = .ok (.if_icmp .ne 21, 3) := by decide +kernel
theorem dX3_canBe_15 : decode cX3_canBe 15 = .ok (.iload_n 3, 1) := by decide +kernel
theorem dX3_canBe_16 : decode cX3_canBe 16 = .ok (.iconst (-1), 1) := by decide +kernel
theorem dX3_canBe_17 : decode cX3_canBe 17 = .ok (.if_icmp .eq 16, 3) := by decide +kernel
theorem dX3_canBe_20 : decode cX3_canBe 20 = .ok (.aload_n 0, 1) := by decide +kernel
theorem dX3_canBe_21 : decode cX3_canBe 21 = .ok (.iload_n 3, 1) := by decide +kernel
theorem dX3_canBe_22 : decode cX3_canBe 22 = .ok (.invokevirtual 53, 3) := by decide +kernel
theorem dX3_canBe_25 : decode cX3_canBe 25 = .ok (.ifCond .eq 12, 3) := by decide +kernel
theorem dX3_canBe_28 : decode cX3_canBe 28 = .ok (.iload_n 3, 1) := by decide +kernel
theorem dX3_canBe_29 : decode cX3_canBe 29 = .ok (.iload_n 1, 1) := by decide +kernel
theorem dX3_canBe_30 : decode cX3_canBe 30 = .ok (.if_icmp .eq 7, 3) := by decide +kernel
theorem dX3_canBe_33 : decode cX3_canBe 33 = .ok (.iconst 1, 1) := by decide +kernel
theorem dX3_canBe_34 : decode cX3_canBe 34 = .ok (.goto 4, 3) := by decide +kernel
theorem dX3_canBe_37 : decode cX3_canBe 37 = .ok (.iconst 0, 1) := by decide +kernel
theorem dX3_canBe_38 : decode cX3_canBe 38 = .ok (.ireturn, 1) := by decide +kernel
theorem dX3_put_0 : decode cX3_put 0 = .ok (.aload_n 0, 1) := by decide +kernel
theorem dX3_put_1 : decode cX3_put 1 = .ok (.iload_n 1, 1) := by decide +kernel
theorem dX3_put_2 : decode cX3_put 2 = .ok (.invokevirtual 53, 3) := by decide +kernel
theorem dX3_put_5 : decode cX3_put 5 = .ok (.ifCond .eq 25, 3) := by decide +kernel
theorem dX3_put_8 : decode cX3_put 8 = .ok (.iload_n 2, 1) := by decide +kernel
theorem dX3_put_9 : decode cX3_put 9 = .ok (.iconst 0, 1) := by decide +kernel
theorem dX3_put_10 : decode cX3_put 10 = .ok (.bipush 9, 2) := by decide +kernel
theorem dX3_put_12 : decode cX3_put 12 = .ok (.invokestatic 74, 3) := by decide +kernel
theorem dX3_put_15 : decode cX3_put 15 = .ok (.ifCond .eq 15, 3) := by decide +kernel
theorem dX3_put_18 : decode cX3_put 18 = .ok (.aload_n 0, 1) := by decide +kernel
theorem dX3_put_19 : decode cX3_put 19 = .ok (.getfield 11, 3) := by decide +kernel
theorem dX3_put_22 : decode cX3_put 22 = .ok (.iload_n 1, 1) := by decide +kernel
theorem dX3_put_23 : decode cX3_put 23 = .ok (.aaload, 1) := by decide +kernel
theorem dX3_put_24 : decode cX3_put 24 = .ok (.getfield 50, 3) := by decide +kernel
theorem dX3_put_27 : decode cX3_put 27 = .ok (.iload_n 2, 1) := by decide +kernel
theorem dX3_put_28 : decode cX3_put 28 = .ok (.iload_n 3, 1) := by decide +kernel
theorem dX3_put_29 : decode cX3_put 29 = .ok (.iastore, 1) := by decide +kernel
theorem dX3_put_30 : decode cX3_put 30 = .ok (.return_, 1) := by decide +kernel
theorem dX3_begin_0 : decode cX3_begin 0 = .ok (.aload_n 0, 1) := by decide +kernel
theorem dX3_begin_1 : decode cX3_begin 1 = .ok (.iload_n 1, 1) := by decide +kernel
theorem dX3_begin_2 : decode cX3_begin 2 = .ok (.invokevirtual 53, 3) := by decide +kernel
theorem dX3_begin_5 : decode cX3_begin 5 = .ok (.ifCond .eq 12, 3) := by decide +kernel
theorem dX3_begin_8 : decode cX3_begin 8 = .ok (.aload_n 0, 1) := by decide +kernel
theorem dX3_begin_9 : decode cX3_begin 9 = .ok (.getfield 11, 3) := by decide +kernel
theorem dX3_begin_12 : decode cX3_begin 12 = .ok (.iload_n 1, 1) := by decide +kernel
theorem dX3_begin_13 : decode cX3_begin 13 = .ok (.aaload, 1) := by decide +kernel
theorem dX3_begin_14 : decode cX3_begin 14 = .ok (.invokevirtual 84, 3) := by decide +kernel
theorem dX3_begin_17 : decode cX3_begin 17 = .ok (.return_, 1) := by decide +kernel
theorem dX3_kill_0 : decode cX3_kill 0 = .ok (.iconst 0, 1) := by decide +kernel
theorem dX3_kill_1 : decode cX3_kill 1 = .ok (.istore_n 2, 1) := by decide +kernel
theorem dX3_kill_2 : decode cX3_kill 2 = .ok (.iload_n 2, 1) := by decide +kernel
theorem dX3_kill_3 : decode cX3_kill 3 = .ok (.aload_n 0, 1) := by decide +kernel
theorem dX3_kill_4 : decode cX3_kill 4 = .ok (.getfield 19, 3) := by decide +kernel
theorem dX3_kill_7 : decode cX3_kill 7 = .ok (.if_icmp .ge 30, 3) := by decide +kernel
theorem dX3_kill_10 : decode cX3_kill 10 = .ok (.iload_n 1, 1) := by decide +kernel
theorem dX3_kill_11 : decode cX3_kill 11 = .ok (.iload_n 2, 1) := by decide +kernel
theorem dX3_kill_12 : decode cX3_kill 12 = .ok (.ishr, 1) := by decide +kernel
theorem dX3_kill_13 : decode cX3_kill 13 = .ok (.iconst 1, 1) := by decide +kernel
theorem dX3_kill_14 : decode cX3_kill 14 = .ok (.iand, 1) := by decide +kernel
theorem dX3_kill_15 : decode cX3_kill 15 = .ok (.ifCond .eq 16, 3) := by decide +kernel
theorem dX3_kill_18 : decode cX3_kill 18 = .ok (.aload_n 0, 1) := by decide +kernel
theorem dX3_kill_19 : decode cX3_kill 19 = .ok (.getfield 11, 3) := by decide +kernel
theorem dX3_kill_22 : decode cX3_kill 22 = .ok (.iload_n 2, 1) := by decide +kernel
theorem dX3_kill_23 : decode cX3_kill 23 = .ok (.aaload, 1) := by decide +kernel
theorem dX3_kill_24 : decode cX3_kill 24 = .ok (.getfield 50, 3) := by decide +kernel
theorem dX3_kill_27 : decode cX3_kill 27 = .ok (.bipush 6, 2) := by decide +kernel
theorem dX3_kill_29 : decode cX3_kill 29 = .ok (.iconst 1, 1) := by decide +kernel
theorem dX3_kill_30 : decode cX3_kill 30 = .ok (.iastore, 1) := by decide +kernel
theorem dX3_kill_31 : decode cX3_kill 31 = .ok (.iinc 2 1, 3) := by decide +kernel
theorem dX3_kill_34 : decode cX3_kill 34 = .ok (.goto (-32), 3) := by decide +kernel
theorem dX3_kill_37 : decode cX3_kill 37 = .ok (.return_, 1) := by decide +kernel
theorem dX3_singing_0 : decode cX3_singing 0 = .ok (.iconst 0, 1) := by decide +kernel
theorem dX3_singing_1 : decode cX3_singing 1 = .ok (.istore_n 1, 1) := by decide +kernel
theorem dX3_singing_2 : decode cX3_singing 2 = .ok (.iconst 0, 1) := by decide +kernel
theorem dX3_singing_3 : decode cX3_singing 3 = .ok (.istore_n 2, 1) := by decide +kernel
theorem dX3_singing_4 : decode cX3_singing 4 = .ok (.iload_n 2, 1) := by decide +kernel
theorem dX3_singing_5 : decode cX3_singing 5 = .ok (.aload_n 0, 1) := by decide +kernel
theorem dX3_singing_6 : decode cX3_singing 6 = .ok (.getfield 19, 3) := by decide +kernel
theorem dX3_singing_9 : decode cX3_singing 9 = .ok (.if_icmp .ge 27, 3) := by decide +kernel
theorem dX3_singing_12 : decode cX3_singing 12 = .ok (.aload_n 0, 1) := by decide +kernel
theorem dX3_singing_13 : decode cX3_singing 13 = .ok (.getfield 11, 3) := by decide +kernel
theorem dX3_singing_16 : decode cX3_singing 16 = .ok (.iload_n 2, 1) := by decide +kernel
theorem dX3_singing_17 : decode cX3_singing 17 = .ok (.aaload, 1) := by decide +kernel
theorem dX3_singing_18 : decode cX3_singing 18 = .ok (.invokevirtual 87, 3) := by decide +kernel
theorem dX3_singing_21 : decode cX3_singing 21 = .ok (.ifCond .eq 9, 3) := by decide +kernel
theorem dX3_singing_24 : decode cX3_singing 24 = .ok (.iload_n 1, 1) := by decide +kernel
theorem dX3_singing_25 : decode cX3_singing 25 = .ok (.iconst 1, 1) := by decide +kernel
theorem dX3_singing_26 : decode cX3_singing 26 = .ok (.iload_n 2, 1) := by decide +kernel
theorem dX3_singing_27 : decode cX3_singing 27 = .ok (.ishl, 1) := by decide +kernel
theorem dX3_singing_28 : decode cX3_singing 28 = .ok (.ior, 1) := by decide +kernel
theorem dX3_singing_29 : decode cX3_singing 29 = .ok (.istore_n 1, 1) := by decide +kernel
theorem dX3_singing_30 : decode cX3_singing 30 = .ok (.iinc 2 1, 3) := by decide +kernel
theorem dX3_singing_33 : decode cX3_singing 33 = .ok (.goto (-29), 3) := by decide +kernel
theorem dX3_singing_36 : decode cX3_singing 36 = .ok (.iload_n 1, 1) := by decide +kernel
theorem dX3_singing_37 : decode cX3_singing 37 = .ok (.ireturn, 1) := by decide +kernel
theorem dX3_waiting_0 : decode cX3_waiting 0 = .ok (.iconst 0, 1) := by decide +kernel
theorem dX3_waiting_1 : decode cX3_waiting 1 = .ok (.istore_n 1, 1) := by decide +kernel
theorem dX3_waiting_2 : decode cX3_waiting 2 = .ok (.iconst 0, 1) := by decide +kernel
theorem dX3_waiting_3 : decode cX3_waiting 3 = .ok (.istore_n 2, 1) := by decide +kernel
theorem dX3_waiting_4 : decode cX3_waiting 4 = .ok (.iload_n 2, 1) := by decide +kernel
theorem dX3_waiting_5 : decode cX3_waiting 5 = .ok (.aload_n 0, 1) := by decide +kernel
theorem dX3_waiting_6 : decode cX3_waiting 6 = .ok (.getfield 19, 3) := by decide +kernel
theorem dX3_waiting_9 : decode cX3_waiting 9 = .ok (.if_icmp .ge 45, 3) := by decide +kernel
theorem dX3_waiting_12 : decode cX3_waiting 12 = .ok (.aload_n 0, 1) := by decide +kernel
theorem dX3_waiting_13 : decode cX3_waiting 13 = .ok (.getfield 11, 3) := by decide +kernel
theorem dX3_waiting_16 : decode cX3_waiting 16 = .ok (.iload_n 2, 1) := by decide +kernel
theorem dX3_waiting_17 : decode cX3_waiting 17 = .ok (.aaload, 1) := by decide +kernel
theorem dX3_waiting_18 : decode cX3_waiting 18 = .ok (.getfield 50, 3) := by decide +kernel
theorem dX3_waiting_21 : decode cX3_waiting 21 = .ok (.bipush 8, 2) := by decide +kernel
theorem dX3_waiting_23 : decode cX3_waiting 23 = .ok (.iaload, 1) := by decide +kernel
theorem dX3_waiting_24 : decode cX3_waiting 24 = .ok (.ifCond .le 24, 3) := by decide +kernel
theorem dX3_waiting_27 : decode cX3_waiting 27 = .ok (.aload_n 0, 1) := by decide +kernel
theorem dX3_waiting_28 : decode cX3_waiting 28 = .ok (.getfield 11, 3) := by decide +kernel
theorem dX3_waiting_31 : decode cX3_waiting 31 = .ok (.iload_n 2, 1) := by decide +kernel
theorem dX3_waiting_32 : decode cX3_waiting 32 = .ok (.aaload, 1) := by decide +kernel
theorem dX3_waiting_33 : decode cX3_waiting 33 = .ok (.getfield 50, 3) := by decide +kernel
theorem dX3_waiting_36 : decode cX3_waiting 36 = .ok (.bipush 6, 2) := by decide +kernel
theorem dX3_waiting_38 : decode cX3_waiting 38 = .ok (.iaload, 1) := by decide +kernel
theorem dX3_waiting_39 : decode cX3_waiting 39 = .ok (.ifCond .ne 9, 3) := by decide +kernel
theorem dX3_waiting_42 : decode cX3_waiting 42 = .ok (.iload_n 1, 1) := by decide +kernel
theorem dX3_waiting_43 : decode cX3_waiting 43 = .ok (.iconst 1, 1) := by decide +kernel
theorem dX3_waiting_44 : decode cX3_waiting 44 = .ok (.iload_n 2, 1) := by decide +kernel
theorem dX3_waiting_45 : decode cX3_waiting 45 = .ok (.ishl, 1) := by decide +kernel
theorem dX3_waiting_46 : decode cX3_waiting 46 = .ok (.ior, 1) := by decide +kernel
theorem dX3_waiting_47 : decode cX3_waiting 47 = .ok (.istore_n 1, 1) := by decide +kernel
theorem dX3_waiting_48 : decode cX3_waiting 48 = .ok (.iinc 2 1, 3) := by decide +kernel
theorem dX3_waiting_51 : decode cX3_waiting 51 = .ok (.goto (-47), 3) := by decide +kernel
theorem dX3_waiting_54 : decode cX3_waiting 54 = .ok (.iload_n 1, 1) := by decide +kernel
theorem dX3_waiting_55 : decode cX3_waiting 55 = .ok (.ireturn, 1) := by decide +kernel
theorem dX3_gone_0 : decode cX3_gone 0 = .ok (.aload_n 0, 1) := by decide +kernel
theorem dX3_gone_1 : decode cX3_gone 1 = .ok (.bipush 6, 2) := by decide +kernel
theorem dX3_gone_3 : decode cX3_gone 3 = .ok (.iconst 1, 1) := by decide +kernel
theorem dX3_gone_4 : decode cX3_gone 4 = .ok (.invokevirtual 90, 3) := by decide +kernel
theorem dX3_gone_7 : decode cX3_gone 7 = .ok (.ireturn, 1) := by decide +kernel
theorem dX3_answering_0 : decode cX3_answering 0 = .ok (.aload_n 0, 1) := by decide +kernel
theorem dX3_answering_1 : decode cX3_answering 1 = .ok (.iconst 2, 1) := by decide +kernel
theorem dX3_answering_2 : decode cX3_answering 2 = .ok (.iload_n 1, 1) := by decide +kernel
theorem dX3_answering_3 : decode cX3_answering 3 = .ok (.invokevirtual 90, 3) := by decide +kernel
theorem dX3_answering_6 : decode cX3_answering 6 = .ok (.ireturn, 1) := by decide +kernel
theorem dX3_having_0 : decode cX3_having 0 = .ok (.iconst 0, 1) := by decide +kernel
theorem dX3_having_1 : decode cX3_having 1 = .ok (.istore_n 3, 1) := by decide +kernel
theorem dX3_having_2 : decode cX3_having 2 = .ok (.iconst 0, 1) := by decide +kernel
theorem dX3_having_3 : decode cX3_having 3 = .ok (.istore 4, 2) := by decide +kernel
theorem dX3_having_5 : decode cX3_having 5 = .ok (.iload 4, 2) := by decide +kernel
theorem dX3_having_7 : decode cX3_having 7 = .ok (.aload_n 0, 1) := by decide +kernel
theorem dX3_having_8 : decode cX3_having 8 = .ok (.getfield 19, 3) := by decide +kernel
theorem dX3_having_11 : decode cX3_having 11 = .ok (.if_icmp .ge 27, 3) := by decide +kernel
theorem dX3_having_14 : decode cX3_having 14 = .ok (.aload_n 0, 1) := by decide +kernel
theorem dX3_having_15 : decode cX3_having 15 = .ok (.iload 4, 2) := by decide +kernel
theorem dX3_having_17 : decode cX3_having 17 = .ok (.iload_n 1, 1) := by decide +kernel
theorem dX3_having_18 : decode cX3_having 18 = .ok (.invokevirtual 93, 3) := by decide +kernel
theorem dX3_having_21 : decode cX3_having 21 = .ok (.iload_n 2, 1) := by decide +kernel
theorem dX3_having_22 : decode cX3_having 22 = .ok (.if_icmp .ne 10, 3) := by decide +kernel
theorem dX3_having_25 : decode cX3_having 25 = .ok (.iload_n 3, 1) := by decide +kernel
theorem dX3_having_26 : decode cX3_having 26 = .ok (.iconst 1, 1) := by decide +kernel
theorem dX3_having_27 : decode cX3_having 27 = .ok (.iload 4, 2) := by decide +kernel
theorem dX3_having_29 : decode cX3_having 29 = .ok (.ishl, 1) := by decide +kernel
theorem dX3_having_30 : decode cX3_having 30 = .ok (.ior, 1) := by decide +kernel
theorem dX3_having_31 : decode cX3_having 31 = .ok (.istore_n 3, 1) := by decide +kernel
theorem dX3_having_32 : decode cX3_having 32 = .ok (.iinc 4 1, 3) := by decide +kernel
theorem dX3_having_35 : decode cX3_having 35 = .ok (.goto (-30), 3) := by decide +kernel
theorem dX3_having_38 : decode cX3_having 38 = .ok (.iload_n 3, 1) := by decide +kernel
theorem dX3_having_39 : decode cX3_having 39 = .ok (.ireturn, 1) := by decide +kernel
theorem dX3_total_0 : decode cX3_total 0 = .ok (.iconst 0, 1) := by decide +kernel
theorem dX3_total_1 : decode cX3_total 1 = .ok (.istore_n 2, 1) := by decide +kernel
theorem dX3_total_2 : decode cX3_total 2 = .ok (.iconst 0, 1) := by decide +kernel
theorem dX3_total_3 : decode cX3_total 3 = .ok (.istore_n 3, 1) := by decide +kernel
theorem dX3_total_4 : decode cX3_total 4 = .ok (.iload_n 3, 1) := by decide +kernel
theorem dX3_total_5 : decode cX3_total 5 = .ok (.aload_n 0, 1) := by decide +kernel
theorem dX3_total_6 : decode cX3_total 6 = .ok (.getfield 19, 3) := by decide +kernel
theorem dX3_total_9 : decode cX3_total 9 = .ok (.if_icmp .ge 18, 3) := by decide +kernel
theorem dX3_total_12 : decode cX3_total 12 = .ok (.iload_n 2, 1) := by decide +kernel
theorem dX3_total_13 : decode cX3_total 13 = .ok (.aload_n 0, 1) := by decide +kernel
theorem dX3_total_14 : decode cX3_total 14 = .ok (.iload_n 3, 1) := by decide +kernel
theorem dX3_total_15 : decode cX3_total 15 = .ok (.iload_n 1, 1) := by decide +kernel
theorem dX3_total_16 : decode cX3_total 16 = .ok (.invokevirtual 93, 3) := by decide +kernel
theorem dX3_total_19 : decode cX3_total 19 = .ok (.iadd, 1) := by decide +kernel
theorem dX3_total_20 : decode cX3_total 20 = .ok (.istore_n 2, 1) := by decide +kernel
theorem dX3_total_21 : decode cX3_total 21 = .ok (.iinc 3 1, 3) := by decide +kernel
theorem dX3_total_24 : decode cX3_total 24 = .ok (.goto (-20), 3) := by decide +kernel
theorem dX3_total_27 : decode cX3_total 27 = .ok (.iload_n 2, 1) := by decide +kernel
theorem dX3_total_28 : decode cX3_total 28 = .ok (.ireturn, 1) := by decide +kernel
theorem dX3_heldSpots_0 : decode cX3_heldSpots 0 = .ok (.iconst 0, 1) := by decide +kernel
theorem dX3_heldSpots_1 : decode cX3_heldSpots 1 = .ok (.istore_n 1, 1) := by decide +kernel
theorem dX3_heldSpots_2 : decode cX3_heldSpots 2 = .ok (.iconst 0, 1) := by decide +kernel
theorem dX3_heldSpots_3 : decode cX3_heldSpots 3 = .ok (.istore_n 2, 1) := by decide +kernel
theorem dX3_heldSpots_4 : decode cX3_heldSpots 4 = .ok (.iload_n 2, 1) := by decide +kernel
theorem dX3_heldSpots_5 : decode cX3_heldSpots 5 = .ok (.bipush 10, 2) := by decide +kernel
theorem dX3_heldSpots_7 : decode cX3_heldSpots 7 = .ok (.if_icmp .ge 22, 3) := by decide +kernel
theorem dX3_heldSpots_10 : decode cX3_heldSpots 10 = .ok (.aload_n 0, 1) := by decide +kernel
theorem dX3_heldSpots_11 : decode cX3_heldSpots 11 = .ok (.getfield 15, 3) := by decide +kernel
theorem dX3_heldSpots_14 : decode cX3_heldSpots 14 = .ok (.iload_n 2, 1) := by decide +kernel
theorem dX3_heldSpots_15 : decode cX3_heldSpots 15 = .ok (.iaload, 1) := by decide +kernel
theorem dX3_heldSpots_16 : decode cX3_heldSpots 16 = .ok (.iconst (-1), 1) := by decide +kernel
theorem dX3_heldSpots_17 : decode cX3_heldSpots 17 = .ok (.if_icmp .eq 6, 3) := by decide +kernel
theorem dX3_heldSpots_20 : decode cX3_heldSpots 20 = .ok (.iinc 1 1, 3) := by decide +kernel
theorem dX3_heldSpots_23 : decode cX3_heldSpots 23 = .ok (.iinc 2 1, 3) := by decide +kernel
theorem dX3_heldSpots_26 : decode cX3_heldSpots 26 = .ok (.goto (-22), 3) := by decide +kernel
theorem dX3_heldSpots_29 : decode cX3_heldSpots 29 = .ok (.iload_n 1, 1) := by decide +kernel
theorem dX3_heldSpots_30 : decode cX3_heldSpots 30 = .ok (.ireturn, 1) := by decide +kernel
theorem dX3_datesOfBeginning_0 : decode cX3_datesOfBeginning 0 = .ok (.lconst 0, 1) := by decide +kernel
theorem dX3_datesOfBeginning_1 : decode cX3_datesOfBeginning 1 = .ok (.lstore_n 1, 1) := by decide +kernel
theorem dX3_datesOfBeginning_2 : decode cX3_datesOfBeginning 2 = .ok (.iconst 0, 1) := by decide +kernel
theorem dX3_datesOfBeginning_3 : decode cX3_datesOfBeginning 3 = .ok (.istore_n 3, 1) := by decide +kernel
theorem dX3_datesOfBeginning_4 : decode cX3_datesOfBeginning 4 = .ok (.iload_n 3, 1) := by decide +kernel
theorem dX3_datesOfBeginning_5 : decode cX3_datesOfBeginning 5 = .ok (.aload_n 0, 1) := by decide +kernel
theorem dX3_datesOfBeginning_6 : decode cX3_datesOfBeginning 6 = .ok (.getfield 19, 3) := by decide +kernel
theorem dX3_datesOfBeginning_9 : decode cX3_datesOfBeginning 9 = .ok (.if_icmp .ge 45, 3) := by decide +kernel
theorem dX3_datesOfBeginning_12 : decode cX3_datesOfBeginning 12 = .ok (.aload_n 0, 1) := by decide +kernel
theorem dX3_datesOfBeginning_13 : decode cX3_datesOfBeginning 13 = .ok (.getfield 11, 3) := by decide +kernel
theorem dX3_datesOfBeginning_16 : decode cX3_datesOfBeginning 16 = .ok (.iload_n 3, 1) := by decide +kernel
theorem dX3_datesOfBeginning_17 : decode cX3_datesOfBeginning 17 = .ok (.aaload, 1) := by decide +kernel
theorem dX3_datesOfBeginning_18 : decode cX3_datesOfBeginning 18 = .ok (.getfield 50, 3) := by decide +kernel
theorem dX3_datesOfBeginning_21 : decode cX3_datesOfBeginning 21 = .ok (.astore 4, 2) := by decide +kernel
theorem dX3_datesOfBeginning_23 : decode cX3_datesOfBeginning 23 = .ok (.aload 4, 2) := by decide +kernel
theorem dX3_datesOfBeginning_25 : decode cX3_datesOfBeginning 25 = .ok (.bipush 6, 2) := by decide +kernel
theorem dX3_datesOfBeginning_27 : decode cX3_datesOfBeginning 27 = .ok (.iaload, 1) := by decide +kernel
theorem dX3_datesOfBeginning_28 : decode cX3_datesOfBeginning 28 = .ok (.ifCond .ne 20, 3) := by decide +kernel
theorem dX3_datesOfBeginning_31 : decode cX3_datesOfBeginning 31 = .ok (.aload 4, 2) := by decide +kernel
theorem dX3_datesOfBeginning_33 : decode cX3_datesOfBeginning 33 = .ok (.iconst 2, 1) := by decide +kernel
theorem dX3_datesOfBeginning_34 : decode cX3_datesOfBeginning 34 = .ok (.iaload, 1) := by decide +kernel
theorem dX3_datesOfBeginning_35 : decode cX3_datesOfBeginning 35 = .ok (.iconst (-1), 1) := by decide +kernel
theorem dX3_datesOfBeginning_36 : decode cX3_datesOfBeginning 36 = .ok (.if_icmp .ne 12, 3) := by decide +kernel
theorem dX3_datesOfBeginning_39 : decode cX3_datesOfBeginning 39 = .ok (.lload_n 1, 1) := by decide +kernel
theorem dX3_datesOfBeginning_40 : decode cX3_datesOfBeginning 40 = .ok (.lconst 1, 1) := by decide +kernel
theorem dX3_datesOfBeginning_41 : decode cX3_datesOfBeginning 41 = .ok (.aload 4, 2) := by decide +kernel
theorem dX3_datesOfBeginning_43 : decode cX3_datesOfBeginning 43 = .ok (.iconst 1, 1) := by decide +kernel
theorem dX3_datesOfBeginning_44 : decode cX3_datesOfBeginning 44 = .ok (.iaload, 1) := by decide +kernel
theorem dX3_datesOfBeginning_45 : decode cX3_datesOfBeginning 45 = .ok (.lshl, 1) := by decide +kernel
theorem dX3_datesOfBeginning_46 : decode cX3_datesOfBeginning 46 = .ok (.lor, 1) := by decide +kernel
theorem dX3_datesOfBeginning_47 : decode cX3_datesOfBeginning 47 = .ok (.lstore_n 1, 1) := by decide +kernel
theorem dX3_datesOfBeginning_48 : decode cX3_datesOfBeginning 48 = .ok (.iinc 3 1, 3) := by decide +kernel
theorem dX3_datesOfBeginning_51 : decode cX3_datesOfBeginning 51 = .ok (.goto (-47), 3) := by decide +kernel
theorem dX3_datesOfBeginning_54 : decode cX3_datesOfBeginning 54 = .ok (.lload_n 1, 1) := by decide +kernel
theorem dX3_datesOfBeginning_55 : decode cX3_datesOfBeginning 55 = .ok (.invokestatic 96, 3) := by decide +kernel
theorem dX3_datesOfBeginning_58 : decode cX3_datesOfBeginning 58 = .ok (.ireturn, 1) := by decide +kernel
theorem dX3_today_0 : decode cX3_today 0 = .ok (.aload_n 0, 1) := by decide +kernel
theorem dX3_today_1 : decode cX3_today 1 = .ok (.getfield 23, 3) := by decide +kernel
theorem dX3_today_4 : decode cX3_today 4 = .ok (.bipush 60, 2) := by decide +kernel
theorem dX3_today_6 : decode cX3_today 6 = .ok (.irem, 1) := by decide +kernel
theorem dX3_today_7 : decode cX3_today 7 = .ok (.ireturn, 1) := by decide +kernel
theorem dX3_hasDaysFor_0 : decode cX3_hasDaysFor 0 = .ok (.aload_n 0, 1) := by decide +kernel
theorem dX3_hasDaysFor_1 : decode cX3_hasDaysFor 1 = .ok (.getfield 23, 3) := by decide +kernel
theorem dX3_hasDaysFor_4 : decode cX3_hasDaysFor 4 = .ok (.ldc 102, 2) := by decide +kernel
theorem dX3_hasDaysFor_6 : decode cX3_hasDaysFor 6 = .ok (.iload_n 1, 1) := by decide +kernel
theorem dX3_hasDaysFor_7 : decode cX3_hasDaysFor 7 = .ok (.isub, 1) := by decide +kernel
theorem dX3_hasDaysFor_8 : decode cX3_hasDaysFor 8 = .ok (.if_icmp .gt 7, 3) := by decide +kernel
theorem dX3_hasDaysFor_11 : decode cX3_hasDaysFor 11 = .ok (.iconst 1, 1) := by decide +kernel
theorem dX3_hasDaysFor_12 : decode cX3_hasDaysFor 12 = .ok (.goto 4, 3) := by decide +kernel
theorem dX3_hasDaysFor_15 : decode cX3_hasDaysFor 15 = .ok (.iconst 0, 1) := by decide +kernel
theorem dX3_hasDaysFor_16 : decode cX3_hasDaysFor 16 = .ok (.ireturn, 1) := by decide +kernel
theorem dX3_draw_0 : decode cX3_draw 0 = .ok (.aload_n 0, 1) := by decide +kernel
theorem dX3_draw_1 : decode cX3_draw 1 = .ok (.aload_n 0, 1) := by decide +kernel
theorem dX3_draw_2 : decode cX3_draw 2 = .ok (.getfield 29, 3) := by decide +kernel
theorem dX3_draw_5 : decode cX3_draw 5 = .ok (.ldc 103, 2) := by decide +kernel
theorem dX3_draw_7 : decode cX3_draw 7 = .ok (.imul, 1) := by decide +kernel
theorem dX3_draw_8 : decode cX3_draw 8 = .ok (.sipush 12345, 3) := by decide +kernel
theorem dX3_draw_11 : decode cX3_draw 11 = .ok (.iadd, 1) := by decide +kernel
theorem dX3_draw_12 : decode cX3_draw 12 = .ok (.putfield 29, 3) := by decide +kernel
theorem dX3_draw_15 : decode cX3_draw 15 = .ok (.aload_n 0, 1) := by decide +kernel
theorem dX3_draw_16 : decode cX3_draw 16 = .ok (.getfield 29, 3) := by decide +kernel
theorem dX3_draw_19 : decode cX3_draw 19 = .ok (.bipush 8, 2) := by decide +kernel
theorem dX3_draw_21 : decode cX3_draw 21 = .ok (.iushr, 1) := by decide +kernel
theorem dX3_draw_22 : decode cX3_draw 22 = .ok (.ireturn, 1) := by decide +kernel
theorem dX3_passDays_0 : decode cX3_passDays 0 = .ok (.iconst 0, 1) := by decide +kernel
theorem dX3_passDays_1 : decode cX3_passDays 1 = .ok (.istore_n 2, 1) := by decide +kernel
theorem dX3_passDays_2 : decode cX3_passDays 2 = .ok (.iload_n 2, 1) := by decide +kernel
theorem dX3_passDays_3 : decode cX3_passDays 3 = .ok (.iload_n 1, 1) := by decide +kernel
theorem dX3_passDays_4 : decode cX3_passDays 4 = .ok (.if_icmp .ge 49, 3) := by decide +kernel
theorem dX3_passDays_7 : decode cX3_passDays 7 = .ok (.aload_n 0, 1) := by decide +kernel
theorem dX3_passDays_8 : decode cX3_passDays 8 = .ok (.invokevirtual 104, 3) := by decide +kernel
theorem dX3_passDays_11 : decode cX3_passDays 11 = .ok (.aload_n 0, 1) := by decide +kernel
theorem dX3_passDays_12 : decode cX3_passDays 12 = .ok (.invokevirtual 107, 3) := by decide +kernel
theorem dX3_passDays_15 : decode cX3_passDays 15 = .ok (.aload_n 0, 1) := by decide +kernel
theorem dX3_passDays_16 : decode cX3_passDays 16 = .ok (.invokevirtual 110, 3) := by decide +kernel
theorem dX3_passDays_19 : decode cX3_passDays 19 = .ok (.aload_n 0, 1) := by decide +kernel
theorem dX3_passDays_20 : decode cX3_passDays 20 = .ok (.invokevirtual 113, 3) := by decide +kernel
theorem dX3_passDays_23 : decode cX3_passDays 23 = .ok (.bipush 59, 2) := by decide +kernel
theorem dX3_passDays_25 : decode cX3_passDays 25 = .ok (.if_icmp .ne 7, 3) := by decide +kernel
theorem dX3_passDays_28 : decode cX3_passDays 28 = .ok (.aload_n 0, 1) := by decide +kernel
theorem dX3_passDays_29 : decode cX3_passDays 29 = .ok (.invokevirtual 116, 3) := by decide +kernel
theorem dX3_passDays_32 : decode cX3_passDays 32 = .ok (.aload_n 0, 1) := by decide +kernel
theorem dX3_passDays_33 : decode cX3_passDays 33 = .ok (.aload_n 0, 1) := by decide +kernel
theorem dX3_passDays_34 : decode cX3_passDays 34 = .ok (.getfield 23, 3) := by decide +kernel
theorem dX3_passDays_37 : decode cX3_passDays 37 = .ok (.iconst 1, 1) := by decide +kernel
theorem dX3_passDays_38 : decode cX3_passDays 38 = .ok (.iadd, 1) := by decide +kernel
theorem dX3_passDays_39 : decode cX3_passDays 39 = .ok (.ldc 102, 2) := by decide +kernel
theorem dX3_passDays_41 : decode cX3_passDays 41 = .ok (.invokestatic 119, 3) := by decide +kernel
theorem dX3_passDays_44 : decode cX3_passDays 44 = .ok (.putfield 23, 3) := by decide +kernel
theorem dX3_passDays_47 : decode cX3_passDays 47 = .ok (.iinc 2 1, 3) := by decide +kernel
theorem dX3_passDays_50 : decode cX3_passDays 50 = .ok (.goto (-48), 3) := by decide +kernel
theorem dX3_passDays_53 : decode cX3_passDays 53 = .ok (.return_, 1) := by decide +kernel
theorem dX3_singOn_0 : decode cX3_singOn 0 = .ok (.iconst 0, 1) := by decide +kernel
theorem dX3_singOn_1 : decode cX3_singOn 1 = .ok (.istore_n 1, 1) := by decide +kernel
theorem dX3_singOn_2 : decode cX3_singOn 2 = .ok (.iload_n 1, 1) := by decide +kernel
theorem dX3_singOn_3 : decode cX3_singOn 3 = .ok (.aload_n 0, 1) := by decide +kernel
theorem dX3_singOn_4 : decode cX3_singOn 4 = .ok (.getfield 19, 3) := by decide +kernel
theorem dX3_singOn_7 : decode cX3_singOn 7 = .ok (.if_icmp .ge 58, 3) := by decide +kernel
theorem dX3_singOn_10 : decode cX3_singOn 10 = .ok (.aload_n 0, 1) := by decide +kernel
theorem dX3_singOn_11 : decode cX3_singOn 11 = .ok (.getfield 11, 3) := by decide +kernel
theorem dX3_singOn_14 : decode cX3_singOn 14 = .ok (.iload_n 1, 1) := by decide +kernel
theorem dX3_singOn_15 : decode cX3_singOn 15 = .ok (.aaload, 1) := by decide +kernel
theorem dX3_singOn_16 : decode cX3_singOn 16 = .ok (.astore_n 2, 1) := by decide +kernel
theorem dX3_singOn_17 : decode cX3_singOn 17 = .ok (.aload_n 2, 1) := by decide +kernel
theorem dX3_singOn_18 : decode cX3_singOn 18 = .ok (.iconst 0, 1) := by decide +kernel
theorem dX3_singOn_19 : decode cX3_singOn 19 = .ok (.putfield 124, 3) := by decide +kernel
theorem dX3_singOn_22 : decode cX3_singOn 22 = .ok (.aload_n 2, 1) := by decide +kernel
theorem dX3_singOn_23 : decode cX3_singOn 23 = .ok (.invokevirtual 87, 3) := by decide +kernel
theorem dX3_singOn_26 : decode cX3_singOn 26 = .ok (.ifCond .eq 33, 3) := by decide +kernel
theorem dX3_singOn_29 : decode cX3_singOn 29 = .ok (.aload_n 2, 1) := by decide +kernel
theorem dX3_singOn_30 : decode cX3_singOn 30 = .ok (.getfield 50, 3) := by decide +kernel
theorem dX3_singOn_33 : decode cX3_singOn 33 = .ok (.bipush 7, 2) := by decide +kernel
theorem dX3_singOn_35 : decode cX3_singOn 35 = .ok (.dup2, 1) := by decide +kernel
theorem dX3_singOn_36 : decode cX3_singOn 36 = .ok (.iaload, 1) := by decide +kernel
theorem dX3_singOn_37 : decode cX3_singOn 37 = .ok (.iconst 1, 1) := by decide +kernel
theorem dX3_singOn_38 : decode cX3_singOn 38 = .ok (.isub, 1) := by decide +kernel
theorem dX3_singOn_39 : decode cX3_singOn 39 = .ok (.iastore, 1) := by decide +kernel
theorem dX3_singOn_40 : decode cX3_singOn 40 = .ok (.aload_n 2, 1) := by decide +kernel
theorem dX3_singOn_41 : decode cX3_singOn 41 = .ok (.aload_n 2, 1) := by decide +kernel
theorem dX3_singOn_42 : decode cX3_singOn 42 = .ok (.getfield 50, 3) := by decide +kernel
theorem dX3_singOn_45 : decode cX3_singOn 45 = .ok (.bipush 7, 2) := by decide +kernel
theorem dX3_singOn_47 : decode cX3_singOn 47 = .ok (.iaload, 1) := by decide +kernel
theorem dX3_singOn_48 : decode cX3_singOn 48 = .ok (.ifCond .ne 7, 3) := by decide +kernel
theorem dX3_singOn_51 : decode cX3_singOn 51 = .ok (.iconst 1, 1) := by decide +kernel
theorem dX3_singOn_52 : decode cX3_singOn 52 = .ok (.goto 4, 3) := by decide +kernel
theorem dX3_singOn_55 : decode cX3_singOn 55 = .ok (.iconst 0, 1) := by decide +kernel
theorem dX3_singOn_56 : decode cX3_singOn 56 = .ok (.putfield 124, 3) := by decide +kernel
theorem dX3_singOn_59 : decode cX3_singOn 59 = .ok (.iinc 1 1, 3) := by decide +kernel
theorem dX3_singOn_62 : decode cX3_singOn 62 = .ok (.goto (-60), 3) := by decide +kernel
theorem dX3_singOn_65 : decode cX3_singOn 65 = .ok (.return_, 1) := by decide +kernel
theorem dX3_comeIn_0 : decode cX3_comeIn 0 = .ok (.aload_n 0, 1) := by decide +kernel
theorem dX3_comeIn_1 : decode cX3_comeIn 1 = .ok (.invokevirtual 113, 3) := by decide +kernel
theorem dX3_comeIn_4 : decode cX3_comeIn 4 = .ok (.istore_n 1, 1) := by decide +kernel
theorem dX3_comeIn_5 : decode cX3_comeIn 5 = .ok (.iconst 0, 1) := by decide +kernel
theorem dX3_comeIn_6 : decode cX3_comeIn 6 = .ok (.istore_n 2, 1) := by decide +kernel
theorem dX3_comeIn_7 : decode cX3_comeIn 7 = .ok (.iload_n 2, 1) := by decide +kernel
theorem dX3_comeIn_8 : decode cX3_comeIn 8 = .ok (.aload_n 0, 1) := by decide +kernel
theorem dX3_comeIn_9 : decode cX3_comeIn 9 = .ok (.getfield 19, 3) := by decide +kernel
theorem dX3_comeIn_12 : decode cX3_comeIn 12 = .ok (.if_icmp .ge 49, 3) := by decide +kernel
theorem dX3_comeIn_15 : decode cX3_comeIn 15 = .ok (.aload_n 0, 1) := by decide +kernel
theorem dX3_comeIn_16 : decode cX3_comeIn 16 = .ok (.getfield 11, 3) := by decide +kernel
theorem dX3_comeIn_19 : decode cX3_comeIn 19 = .ok (.iload_n 2, 1) := by decide +kernel
theorem dX3_comeIn_20 : decode cX3_comeIn 20 = .ok (.aaload, 1) := by decide +kernel
theorem dX3_comeIn_21 : decode cX3_comeIn 21 = .ok (.astore_n 3, 1) := by decide +kernel
theorem dX3_comeIn_22 : decode cX3_comeIn 22 = .ok (.aload_n 3, 1) := by decide +kernel
theorem dX3_comeIn_23 : decode cX3_comeIn 23 = .ok (.getfield 50, 3) := by decide +kernel
theorem dX3_comeIn_26 : decode cX3_comeIn 26 = .ok (.bipush 6, 2) := by decide +kernel
theorem dX3_comeIn_28 : decode cX3_comeIn 28 = .ok (.iaload, 1) := by decide +kernel
theorem dX3_comeIn_29 : decode cX3_comeIn 29 = .ok (.ifCond .ne 26, 3) := by decide +kernel
theorem dX3_comeIn_32 : decode cX3_comeIn 32 = .ok (.aload_n 3, 1) := by decide +kernel
theorem dX3_comeIn_33 : decode cX3_comeIn 33 = .ok (.getfield 50, 3) := by decide +kernel
theorem dX3_comeIn_36 : decode cX3_comeIn 36 = .ok (.bipush 7, 2) := by decide +kernel
theorem dX3_comeIn_38 : decode cX3_comeIn 38 = .ok (.iaload, 1) := by decide +kernel
theorem dX3_comeIn_39 : decode cX3_comeIn 39 = .ok (.ifCond .ne 16, 3) := by decide +kernel
theorem dX3_comeIn_42 : decode cX3_comeIn 42 = .ok (.aload_n 3, 1) := by decide +kernel
theorem dX3_comeIn_43 : decode cX3_comeIn 43 = .ok (.getfield 124, 3) := by decide +kernel
theorem dX3_comeIn_46 : decode cX3_comeIn 46 = .ok (.ifCond .ne 9, 3) := by decide +kernel
theorem dX3_comeIn_49 : decode cX3_comeIn 49 = .ok (.aload_n 0, 1) := by decide +kernel
theorem dX3_comeIn_50 : decode cX3_comeIn 50 = .ok (.aload_n 3, 1) := by decide +kernel
theorem dX3_comeIn_51 : decode cX3_comeIn 51 = .ok (.iload_n 1, 1) := by decide +kernel
theorem dX3_comeIn_52 : decode cX3_comeIn 52 = .ok (.invokevirtual 128, 3) := by decide +kernel
theorem dX3_comeIn_55 : decode cX3_comeIn 55 = .ok (.iinc 2 1, 3) := by decide +kernel
theorem dX3_comeIn_58 : decode cX3_comeIn 58 = .ok (.goto (-51), 3) := by decide +kernel
theorem dX3_comeIn_61 : decode cX3_comeIn 61 = .ok (.return_, 1) := by decide +kernel
theorem dX3_listen_0 : decode cX3_listen 0 = .ok (.aload_n 1, 1) := by decide +kernel
theorem dX3_listen_1 : decode cX3_listen 1 = .ok (.getfield 50, 3) := by decide +kernel
theorem dX3_listen_4 : decode cX3_listen 4 = .ok (.iconst 2, 1) := by decide +kernel
theorem dX3_listen_5 : decode cX3_listen 5 = .ok (.iaload, 1) := by decide +kernel
theorem dX3_listen_6 : decode cX3_listen 6 = .ok (.istore_n 3, 1) := by decide +kernel
theorem dX3_listen_7 : decode cX3_listen 7 = .ok (.aload_n 1, 1) := by decide +kernel
theorem dX3_listen_8 : decode cX3_listen 8 = .ok (.getfield 50, 3) := by decide +kernel
theorem dX3_listen_11 : decode cX3_listen 11 = .ok (.bipush 8, 2) := by decide +kernel
theorem dX3_listen_13 : decode cX3_listen 13 = .ok (.iaload, 1) := by decide +kernel
theorem dX3_listen_14 : decode cX3_listen 14 = .ok (.ifCond .le 31, 3) := by decide +kernel
theorem dX3_listen_17 : decode cX3_listen 17 = .ok (.aload_n 1, 1) := by decide +kernel
theorem dX3_listen_18 : decode cX3_listen 18 = .ok (.getfield 50, 3) := by decide +kernel
theorem dX3_listen_21 : decode cX3_listen 21 = .ok (.bipush 8, 2) := by decide +kernel
theorem dX3_listen_23 : decode cX3_listen 23 = .ok (.dup2, 1) := by decide +kernel
theorem dX3_listen_24 : decode cX3_listen 24 = .ok (.iaload, 1) := by decide +kernel
theorem dX3_listen_25 : decode cX3_listen 25 = .ok (.iconst 1, 1) := by decide +kernel
theorem dX3_listen_26 : decode cX3_listen 26 = .ok (.isub, 1) := by decide +kernel
theorem dX3_listen_27 : decode cX3_listen 27 = .ok (.iastore, 1) := by decide +kernel
theorem dX3_listen_28 : decode cX3_listen 28 = .ok (.aload_n 1, 1) := by decide +kernel
theorem dX3_listen_29 : decode cX3_listen 29 = .ok (.getfield 50, 3) := by decide +kernel
theorem dX3_listen_32 : decode cX3_listen 32 = .ok (.bipush 8, 2) := by decide +kernel
theorem dX3_listen_34 : decode cX3_listen 34 = .ok (.iaload, 1) := by decide +kernel
theorem dX3_listen_35 : decode cX3_listen 35 = .ok (.ifCond .ne 63, 3) := by decide +kernel
theorem dX3_listen_38 : decode cX3_listen 38 = .ok (.aload_n 1, 1) := by decide +kernel
theorem dX3_listen_39 : decode cX3_listen 39 = .ok (.invokevirtual 84, 3) := by decide +kernel
theorem dX3_listen_42 : decode cX3_listen 42 = .ok (.goto 56, 3) := by decide +kernel
theorem dX3_listen_45 : decode cX3_listen 45 = .ok (.aload_n 0, 1) := by decide +kernel
theorem dX3_listen_46 : decode cX3_listen 46 = .ok (.iload_n 3, 1) := by decide +kernel
theorem dX3_listen_47 : decode cX3_listen 47 = .ok (.invokevirtual 53, 3) := by decide +kernel
theorem dX3_listen_50 : decode cX3_listen 50 = .ok (.ifCond .eq 34, 3) := by decide +kernel
theorem dX3_listen_53 : decode cX3_listen 53 = .ok (.aload_n 0, 1) := by decide +kernel
theorem dX3_listen_54 : decode cX3_listen 54 = .ok (.getfield 11, 3) := by decide +kernel
theorem dX3_listen_57 : decode cX3_listen 57 = .ok (.iload_n 3, 1) := by decide +kernel
theorem dX3_listen_58 : decode cX3_listen 58 = .ok (.aaload, 1) := by decide +kernel
theorem dX3_listen_59 : decode cX3_listen 59 = .ok (.getfield 124, 3) := by decide +kernel
theorem dX3_listen_62 : decode cX3_listen 62 = .ok (.ifCond .eq 36, 3) := by decide +kernel
theorem dX3_listen_65 : decode cX3_listen 65 = .ok (.aload_n 1, 1) := by decide +kernel
theorem dX3_listen_66 : decode cX3_listen 66 = .ok (.getfield 50, 3) := by decide +kernel
theorem dX3_listen_69 : decode cX3_listen 69 = .ok (.bipush 8, 2) := by decide +kernel
theorem dX3_listen_71 : decode cX3_listen 71 = .ok (.aload_n 1, 1) := by decide +kernel
theorem dX3_listen_72 : decode cX3_listen 72 = .ok (.invokevirtual 57, 3) := by decide +kernel
theorem dX3_listen_75 : decode cX3_listen 75 = .ok (.bipush 99, 2) := by decide +kernel
theorem dX3_listen_77 : decode cX3_listen 77 = .ok (.invokestatic 119, 3) := by decide +kernel
theorem dX3_listen_80 : decode cX3_listen 80 = .ok (.iastore, 1) := by decide +kernel
theorem dX3_listen_81 : decode cX3_listen 81 = .ok (.goto 17, 3) := by decide +kernel
theorem dX3_listen_84 : decode cX3_listen 84 = .ok (.aload_n 1, 1) := by decide +kernel
theorem dX3_listen_85 : decode cX3_listen 85 = .ok (.getfield 50, 3) := by decide +kernel
theorem dX3_listen_88 : decode cX3_listen 88 = .ok (.iconst 1, 1) := by decide +kernel
theorem dX3_listen_89 : decode cX3_listen 89 = .ok (.iaload, 1) := by decide +kernel
theorem dX3_listen_90 : decode cX3_listen 90 = .ok (.iload_n 2, 1) := by decide +kernel
theorem dX3_listen_91 : decode cX3_listen 91 = .ok (.if_icmp .ne 7, 3) := by decide +kernel
theorem dX3_listen_94 : decode cX3_listen 94 = .ok (.aload_n 1, 1) := by decide +kernel
theorem dX3_listen_95 : decode cX3_listen 95 = .ok (.invokevirtual 84, 3) := by decide +kernel
theorem dX3_listen_98 : decode cX3_listen 98 = .ok (.return_, 1) := by decide +kernel
theorem dX3_sell_0 : decode cX3_sell 0 = .ok (.aload_n 0, 1) := by decide +kernel
theorem dX3_sell_1 : decode cX3_sell 1 = .ok (.invokevirtual 64, 3) := by decide +kernel
theorem dX3_sell_4 : decode cX3_sell 4 = .ok (.istore_n 1, 1) := by decide +kernel
theorem dX3_sell_5 : decode cX3_sell 5 = .ok (.iconst 0, 1) := by decide +kernel
theorem dX3_sell_6 : decode cX3_sell 6 = .ok (.istore_n 2, 1) := by decide +kernel
theorem dX3_sell_7 : decode cX3_sell 7 = .ok (.iload_n 2, 1) := by decide +kernel
theorem dX3_sell_8 : decode cX3_sell 8 = .ok (.aload_n 0, 1) := by decide +kernel
theorem dX3_sell_9 : decode cX3_sell 9 = .ok (.getfield 19, 3) := by decide +kernel
theorem dX3_sell_12 : decode cX3_sell 12 = .ok (.if_icmp .ge 56, 3) := by decide +kernel
theorem dX3_sell_15 : decode cX3_sell 15 = .ok (.iload_n 1, 1) := by decide +kernel
theorem dX3_sell_16 : decode cX3_sell 16 = .ok (.iload_n 2, 1) := by decide +kernel
theorem dX3_sell_17 : decode cX3_sell 17 = .ok (.ishr, 1) := by decide +kernel
theorem dX3_sell_18 : decode cX3_sell 18 = .ok (.iconst 1, 1) := by decide +kernel
theorem dX3_sell_19 : decode cX3_sell 19 = .ok (.iand, 1) := by decide +kernel
theorem dX3_sell_20 : decode cX3_sell 20 = .ok (.ifCond .eq 42, 3) := by decide +kernel
theorem dX3_sell_23 : decode cX3_sell 23 = .ok (.aload_n 0, 1) := by decide +kernel
theorem dX3_sell_24 : decode cX3_sell 24 = .ok (.getfield 11, 3) := by decide +kernel
theorem dX3_sell_27 : decode cX3_sell 27 = .ok (.iload_n 2, 1) := by decide +kernel
theorem dX3_sell_28 : decode cX3_sell 28 = .ok (.aaload, 1) := by decide +kernel
theorem dX3_sell_29 : decode cX3_sell 29 = .ok (.getfield 50, 3) := by decide +kernel
theorem dX3_sell_32 : decode cX3_sell 32 = .ok (.bipush 9, 2) := by decide +kernel
theorem dX3_sell_34 : decode cX3_sell 34 = .ok (.iaload, 1) := by decide +kernel
theorem dX3_sell_35 : decode cX3_sell 35 = .ok (.aload_n 0, 1) := by decide +kernel
theorem dX3_sell_36 : decode cX3_sell 36 = .ok (.iload_n 2, 1) := by decide +kernel
theorem dX3_sell_37 : decode cX3_sell 37 = .ok (.iload_n 1, 1) := by decide +kernel
theorem dX3_sell_38 : decode cX3_sell 38 = .ok (.invokevirtual 67, 3) := by decide +kernel
theorem dX3_sell_41 : decode cX3_sell 41 = .ok (.iadd, 1) := by decide +kernel
theorem dX3_sell_42 : decode cX3_sell 42 = .ok (.istore_n 3, 1) := by decide +kernel
theorem dX3_sell_43 : decode cX3_sell 43 = .ok (.aload_n 0, 1) := by decide +kernel
theorem dX3_sell_44 : decode cX3_sell 44 = .ok (.getfield 11, 3) := by decide +kernel
theorem dX3_sell_47 : decode cX3_sell 47 = .ok (.iload_n 2, 1) := by decide +kernel
theorem dX3_sell_48 : decode cX3_sell 48 = .ok (.aaload, 1) := by decide +kernel
theorem dX3_sell_49 : decode cX3_sell 49 = .ok (.getfield 50, 3) := by decide +kernel
theorem dX3_sell_52 : decode cX3_sell 52 = .ok (.bipush 9, 2) := by decide +kernel
theorem dX3_sell_54 : decode cX3_sell 54 = .ok (.iload_n 3, 1) := by decide +kernel
theorem dX3_sell_55 : decode cX3_sell 55 = .ok (.sipush 9999, 3) := by decide +kernel
theorem dX3_sell_58 : decode cX3_sell 58 = .ok (.invokestatic 119, 3) := by decide +kernel
theorem dX3_sell_61 : decode cX3_sell 61 = .ok (.iastore, 1) := by decide +kernel
theorem dX3_sell_62 : decode cX3_sell 62 = .ok (.iinc 2 1, 3) := by decide +kernel
theorem dX3_sell_65 : decode cX3_sell 65 = .ok (.goto (-58), 3) := by decide +kernel
theorem dX3_sell_68 : decode cX3_sell 68 = .ok (.aload_n 0, 1) := by decide +kernel
theorem dX3_sell_69 : decode cX3_sell 69 = .ok (.iload_n 1, 1) := by decide +kernel
theorem dX3_sell_70 : decode cX3_sell 70 = .ok (.ifCond .eq 7, 3) := by decide +kernel
theorem dX3_sell_73 : decode cX3_sell 73 = .ok (.iconst 0, 1) := by decide +kernel
theorem dX3_sell_74 : decode cX3_sell 74 = .ok (.goto 14, 3) := by decide +kernel
theorem dX3_sell_77 : decode cX3_sell 77 = .ok (.aload_n 0, 1) := by decide +kernel
theorem dX3_sell_78 : decode cX3_sell 78 = .ok (.getfield 26, 3) := by decide +kernel
theorem dX3_sell_81 : decode cX3_sell 81 = .ok (.iconst 1, 1) := by decide +kernel
theorem dX3_sell_82 : decode cX3_sell 82 = .ok (.iadd, 1) := by decide +kernel
theorem dX3_sell_83 : decode cX3_sell 83 = .ok (.ldc 102, 2) := by decide +kernel
theorem dX3_sell_85 : decode cX3_sell 85 = .ok (.invokestatic 119, 3) := by decide +kernel
theorem dX3_sell_88 : decode cX3_sell 88 = .ok (.putfield 26, 3) := by decide +kernel
theorem dX3_sell_91 : decode cX3_sell 91 = .ok (.return_, 1) := by decide +kernel
theorem dX3_selling_0 : decode cX3_selling 0 = .ok (.aload_n 0, 1) := by decide +kernel
theorem dX3_selling_1 : decode cX3_selling 1 = .ok (.getfield 11, 3) := by decide +kernel
theorem dX3_selling_4 : decode cX3_selling 4 = .ok (.iload_n 1, 1) := by decide +kernel
theorem dX3_selling_5 : decode cX3_selling 5 = .ok (.aaload, 1) := by decide +kernel
theorem dX3_selling_6 : decode cX3_selling 6 = .ok (.getfield 50, 3) := by decide +kernel
theorem dX3_selling_9 : decode cX3_selling 9 = .ok (.iconst 2, 1) := by decide +kernel
theorem dX3_selling_10 : decode cX3_selling 10 = .ok (.iaload, 1) := by decide +kernel
theorem dX3_selling_11 : decode cX3_selling 11 = .ok (.istore_n 3, 1) := by decide +kernel
theorem dX3_selling_12 : decode cX3_selling 12 = .ok (.aload_n 0, 1) := by decide +kernel
theorem dX3_selling_13 : decode cX3_selling 13 = .ok (.iload_n 3, 1) := by decide +kernel
theorem dX3_selling_14 : decode cX3_selling 14 = .ok (.invokevirtual 53, 3) := by decide +kernel
theorem dX3_selling_17 : decode cX3_selling 17 = .ok (.ifCond .eq 22, 3) := by decide +kernel
theorem dX3_selling_20 : decode cX3_selling 20 = .ok (.aload_n 0, 1) := by decide +kernel
theorem dX3_selling_21 : decode cX3_selling 21 = .ok (.getfield 11, 3) := by decide +kernel
theorem dX3_selling_24 : decode cX3_selling 24 = .ok (.iload_n 3, 1) := by decide +kernel
theorem dX3_selling_25 : decode cX3_selling 25 = .ok (.aaload, 1) := by decide +kernel
theorem dX3_selling_26 : decode cX3_selling 26 = .ok (.getfield 50, 3) := by decide +kernel
theorem dX3_selling_29 : decode cX3_selling 29 = .ok (.bipush 6, 2) := by decide +kernel
theorem dX3_selling_31 : decode cX3_selling 31 = .ok (.iaload, 1) := by decide +kernel
theorem dX3_selling_32 : decode cX3_selling 32 = .ok (.ifCond .ne 7, 3) := by decide +kernel
theorem dX3_selling_35 : decode cX3_selling 35 = .ok (.iconst 1, 1) := by decide +kernel
theorem dX3_selling_36 : decode cX3_selling 36 = .ok (.goto 4, 3) := by decide +kernel
theorem dX3_selling_39 : decode cX3_selling 39 = .ok (.iconst 0, 1) := by decide +kernel
theorem dX3_selling_40 : decode cX3_selling 40 = .ok (.istore 4, 2) := by decide +kernel
theorem dX3_selling_42 : decode cX3_selling 42 = .ok (.aload_n 0, 1) := by decide +kernel
theorem dX3_selling_43 : decode cX3_selling 43 = .ok (.getfield 11, 3) := by decide +kernel
theorem dX3_selling_46 : decode cX3_selling 46 = .ok (.iload_n 1, 1) := by decide +kernel
theorem dX3_selling_47 : decode cX3_selling 47 = .ok (.aaload, 1) := by decide +kernel
theorem dX3_selling_48 : decode cX3_selling 48 = .ok (.iload 4, 2) := by decide +kernel
theorem dX3_selling_50 : decode cX3_selling 50 = .ok (.iload_n 2, 1) := by decide +kernel
theorem dX3_selling_51 : decode cX3_selling 51 = .ok (.iconst 1, 1) := by decide +kernel
theorem dX3_selling_52 : decode cX3_selling 52 = .ok (.iload_n 1, 1) := by decide +kernel
theorem dX3_selling_53 : decode cX3_selling 53 = .ok (.ishl, 1) := by decide +kernel
theorem dX3_selling_54 : decode cX3_selling 54 = .ok (.iconst (-1), 1) := by decide +kernel
theorem dX3_selling_55 : decode cX3_selling 55 = .ok (.ixor, 1) := by decide +kernel
theorem dX3_selling_56 : decode cX3_selling 56 = .ok (.iand, 1) := by decide +kernel
theorem dX3_selling_57 : decode cX3_selling 57 = .ok (.ifCond .ne 7, 3) := by decide +kernel
theorem dX3_selling_60 : decode cX3_selling 60 = .ok (.iconst 1, 1) := by decide +kernel
theorem dX3_selling_61 : decode cX3_selling 61 = .ok (.goto 4, 3) := by decide +kernel
theorem dX3_selling_64 : decode cX3_selling 64 = .ok (.iconst 0, 1) := by decide +kernel
theorem dX3_selling_65 : decode cX3_selling 65 = .ok (.invokevirtual 132, 3) := by decide +kernel
theorem dX3_selling_68 : decode cX3_selling 68 = .ok (.ireturn, 1) := by decide +kernel
theorem dX3_growOlder_0 : decode cX3_growOlder 0 = .ok (.iconst 0, 1) := by decide +kernel
theorem dX3_growOlder_1 : decode cX3_growOlder 1 = .ok (.istore_n 1, 1) := by decide +kernel
theorem dX3_growOlder_2 : decode cX3_growOlder 2 = .ok (.iload_n 1, 1) := by decide +kernel
theorem dX3_growOlder_3 : decode cX3_growOlder 3 = .ok (.aload_n 0, 1) := by decide +kernel
theorem dX3_growOlder_4 : decode cX3_growOlder 4 = .ok (.getfield 19, 3) := by decide +kernel
theorem dX3_growOlder_7 : decode cX3_growOlder 7 = .ok (.if_icmp .ge 33, 3) := by decide +kernel
theorem dX3_growOlder_10 : decode cX3_growOlder 10 = .ok (.aload_n 0, 1) := by decide +kernel
theorem dX3_growOlder_11 : decode cX3_growOlder 11 = .ok (.getfield 11, 3) := by decide +kernel
theorem dX3_growOlder_14 : decode cX3_growOlder 14 = .ok (.iload_n 1, 1) := by decide +kernel
theorem dX3_growOlder_15 : decode cX3_growOlder 15 = .ok (.aaload, 1) := by decide +kernel
theorem dX3_growOlder_16 : decode cX3_growOlder 16 = .ok (.getfield 50, 3) := by decide +kernel
theorem dX3_growOlder_19 : decode cX3_growOlder 19 = .ok (.bipush 6, 2) := by decide +kernel
theorem dX3_growOlder_21 : decode cX3_growOlder 21 = .ok (.iaload, 1) := by decide +kernel
theorem dX3_growOlder_22 : decode cX3_growOlder 22 = .ok (.ifCond .ne 12, 3) := by decide +kernel
theorem dX3_growOlder_25 : decode cX3_growOlder 25 = .ok (.aload_n 0, 1) := by decide +kernel
theorem dX3_growOlder_26 : decode cX3_growOlder 26 = .ok (.getfield 11, 3) := by decide +kernel
theorem dX3_growOlder_29 : decode cX3_growOlder 29 = .ok (.iload_n 1, 1) := by decide +kernel
theorem dX3_growOlder_30 : decode cX3_growOlder 30 = .ok (.aaload, 1) := by decide +kernel
theorem dX3_growOlder_31 : decode cX3_growOlder 31 = .ok (.invokevirtual 135, 3) := by decide +kernel
theorem dX3_growOlder_34 : decode cX3_growOlder 34 = .ok (.iinc 1 1, 3) := by decide +kernel
theorem dX3_growOlder_37 : decode cX3_growOlder 37 = .ok (.goto (-35), 3) := by decide +kernel
theorem dX3_growOlder_40 : decode cX3_growOlder 40 = .ok (.return_, 1) := by decide +kernel
theorem dX4_init_0 : decode cX4_init 0 = .ok (.aload_n 0, 1) := by decide +kernel
theorem dX4_init_1 : decode cX4_init 1 = .ok (.invokespecial 1, 3) := by decide +kernel
theorem dX4_init_4 : decode cX4_init 4 = .ok (.aload_n 0, 1) := by decide +kernel
theorem dX4_init_5 : decode cX4_init 5 = .ok (.bipush 120, 2) := by decide +kernel
theorem dX4_init_7 : decode cX4_init 7 = .ok (.newarray .int, 2) := by decide +kernel
theorem dX4_init_9 : decode cX4_init 9 = .ok (.putfield 9, 3) := by decide +kernel
theorem dX4_init_12 : decode cX4_init 12 = .ok (.aload_n 0, 1) := by decide +kernel
theorem dX4_init_13 : decode cX4_init 13 = .ok (.iconst 0, 1) := by decide +kernel
theorem dX4_init_14 : decode cX4_init 14 = .ok (.putfield 13, 3) := by decide +kernel
theorem dX4_init_17 : decode cX4_init 17 = .ok (.aload_n 0, 1) := by decide +kernel
theorem dX4_init_18 : decode cX4_init 18 = .ok (.iconst 0, 1) := by decide +kernel
theorem dX4_init_19 : decode cX4_init 19 = .ok (.putfield 17, 3) := by decide +kernel
theorem dX4_init_22 : decode cX4_init 22 = .ok (.aload_n 0, 1) := by decide +kernel
theorem dX4_init_23 : decode cX4_init 23 = .ok (.iconst 0, 1) := by decide +kernel
theorem dX4_init_24 : decode cX4_init 24 = .ok (.putfield 20, 3) := by decide +kernel
theorem dX4_init_27 : decode cX4_init 27 = .ok (.aload_n 0, 1) := by decide +kernel
theorem dX4_init_28 : decode cX4_init 28 = .ok (.iconst 0, 1) := by decide +kernel
theorem dX4_init_29 : decode cX4_init 29 = .ok (.putfield 23, 3) := by decide +kernel
theorem dX4_init_32 : decode cX4_init 32 = .ok (.aload_n 0, 1) := by decide +kernel
theorem dX4_init_33 : decode cX4_init 33 = .ok (.iconst 0, 1) := by decide +kernel
theorem dX4_init_34 : decode cX4_init 34 = .ok (.putfield 26, 3) := by decide +kernel
theorem dX4_init_37 : decode cX4_init 37 = .ok (.return_, 1) := by decide +kernel
theorem dX4_hasRoomFor_0 : decode cX4_hasRoomFor 0 = .ok (.aload_n 0, 1) := by decide +kernel
theorem dX4_hasRoomFor_1 : decode cX4_hasRoomFor 1 = .ok (.getfield 13, 3) := by decide +kernel
theorem dX4_hasRoomFor_4 : decode cX4_hasRoomFor 4 = .ok (.iload_n 1, 1) := by decide +kernel
theorem dX4_hasRoomFor_5 : decode cX4_hasRoomFor 5 = .ok (.iadd, 1) := by decide +kernel
theorem dX4_hasRoomFor_6 : decode cX4_hasRoomFor 6 = .ok (.bipush 120, 2) := by decide +kernel
theorem dX4_hasRoomFor_8 : decode cX4_hasRoomFor 8 = .ok (.if_icmp .gt 7, 3) := by decide +kernel
theorem dX4_hasRoomFor_11 : decode cX4_hasRoomFor 11 = .ok (.iconst 1, 1) := by decide +kernel
theorem dX4_hasRoomFor_12 : decode cX4_hasRoomFor 12 = .ok (.goto 4, 3) := by decide +kernel
theorem dX4_hasRoomFor_15 : decode cX4_hasRoomFor 15 = .ok (.iconst 0, 1) := by decide +kernel
theorem dX4_hasRoomFor_16 : decode cX4_hasRoomFor 16 = .ok (.ireturn, 1) := by decide +kernel
theorem dX4_add_0 : decode cX4_add 0 = .ok (.aload_n 0, 1) := by decide +kernel
theorem dX4_add_1 : decode cX4_add 1 = .ok (.iconst 1, 1) := by decide +kernel
theorem dX4_add_2 : decode cX4_add 2 = .ok (.invokevirtual 29, 3) := by decide +kernel
theorem dX4_add_5 : decode cX4_add 5 = .ok (.ifCond .eq 23, 3) := by decide +kernel
theorem dX4_add_8 : decode cX4_add 8 = .ok (.aload_n 0, 1) := by decide +kernel
theorem dX4_add_9 : decode cX4_add 9 = .ok (.getfield 9, 3) := by decide +kernel
theorem dX4_add_12 : decode cX4_add 12 = .ok (.aload_n 0, 1) := by decide +kernel
theorem dX4_add_13 : decode cX4_add 13 = .ok (.getfield 13, 3) := by decide +kernel
theorem dX4_add_16 : decode cX4_add 16 = .ok (.iload_n 1, 1) := by decide +kernel
theorem dX4_add_17 : decode cX4_add 17 = .ok (.iastore, 1) := by decide +kernel
theorem dX4_add_18 : decode cX4_add 18 = .ok (.aload_n 0, 1) := by decide +kernel
theorem dX4_add_19 : decode cX4_add 19 = .ok (.dup, 1) := by decide +kernel
theorem dX4_add_20 : decode cX4_add 20 = .ok (.getfield 13, 3) := by decide +kernel
theorem dX4_add_23 : decode cX4_add 23 = .ok (.iconst 1, 1) := by decide +kernel
theorem dX4_add_24 : decode cX4_add 24 = .ok (.iadd, 1) := by decide +kernel
theorem dX4_add_25 : decode cX4_add 25 = .ok (.putfield 13, 3) := by decide +kernel
theorem dX4_add_28 : decode cX4_add 28 = .ok (.return_, 1) := by decide +kernel
theorem dX4_rewind_0 : decode cX4_rewind 0 = .ok (.aload_n 0, 1) := by decide +kernel
theorem dX4_rewind_1 : decode cX4_rewind 1 = .ok (.iconst 0, 1) := by decide +kernel
theorem dX4_rewind_2 : decode cX4_rewind 2 = .ok (.putfield 26, 3) := by decide +kernel
theorem dX4_rewind_5 : decode cX4_rewind 5 = .ok (.aload_n 0, 1) := by decide +kernel
theorem dX4_rewind_6 : decode cX4_rewind 6 = .ok (.invokevirtual 33, 3) := by decide +kernel
theorem dX4_rewind_9 : decode cX4_rewind 9 = .ok (.return_, 1) := by decide +kernel
theorem dX4_step_0 : decode cX4_step 0 = .ok (.aload_n 0, 1) := by decide +kernel
theorem dX4_step_1 : decode cX4_step 1 = .ok (.aload_n 0, 1) := by decide +kernel
theorem dX4_step_2 : decode cX4_step 2 = .ok (.getfield 26, 3) := by decide +kernel
theorem dX4_step_5 : decode cX4_step 5 = .ok (.putfield 20, 3) := by decide +kernel
theorem dX4_step_8 : decode cX4_step 8 = .ok (.aload_n 0, 1) := by decide +kernel
theorem dX4_step_9 : decode cX4_step 9 = .ok (.getfield 20, 3) := by decide +kernel
theorem dX4_step_12 : decode cX4_step 12 = .ok (.aload_n 0, 1) := by decide +kernel
theorem dX4_step_13 : decode cX4_step 13 = .ok (.getfield 13, 3) := by decide +kernel
theorem dX4_step_16 : decode cX4_step 16 = .ok (.if_icmp .ge 30, 3) := by decide +kernel
theorem dX4_step_19 : decode cX4_step 19 = .ok (.aload_n 0, 1) := by decide +kernel
theorem dX4_step_20 : decode cX4_step 20 = .ok (.getfield 9, 3) := by decide +kernel
theorem dX4_step_23 : decode cX4_step 23 = .ok (.aload_n 0, 1) := by decide +kernel
theorem dX4_step_24 : decode cX4_step 24 = .ok (.getfield 20, 3) := by decide +kernel
theorem dX4_step_27 : decode cX4_step 27 = .ok (.iaload, 1) := by decide +kernel
theorem dX4_step_28 : decode cX4_step 28 = .ok (.bipush 32, 2) := by decide +kernel
theorem dX4_step_30 : decode cX4_step 30 = .ok (.if_icmp .ne 16, 3) := by decide +kernel
theorem dX4_step_33 : decode cX4_step 33 = .ok (.aload_n 0, 1) := by decide +kernel
theorem dX4_step_34 : decode cX4_step 34 = .ok (.dup, 1) := by decide +kernel
theorem dX4_step_35 : decode cX4_step 35 = .ok (.getfield 20, 3) := by decide +kernel
theorem dX4_step_38 : decode cX4_step 38 = .ok (.iconst 1, 1) := by decide +kernel
theorem dX4_step_39 : decode cX4_step 39 = .ok (.iadd, 1) := by decide +kernel
theorem dX4_step_40 : decode cX4_step 40 = .ok (.putfield 20, 3) := by decide +kernel
theorem dX4_step_43 : decode cX4_step 43 = .ok (.goto (-35), 3) := by decide +kernel
theorem dX4_step_46 : decode cX4_step 46 = .ok (.aload_n 0, 1) := by decide +kernel
theorem dX4_step_47 : decode cX4_step 47 = .ok (.aload_n 0, 1) := by decide +kernel
theorem dX4_step_48 : decode cX4_step 48 = .ok (.aload_n 0, 1) := by decide +kernel
theorem dX4_step_49 : decode cX4_step 49 = .ok (.getfield 20, 3) := by decide +kernel
theorem dX4_step_52 : decode cX4_step 52 = .ok (.invokevirtual 36, 3) := by decide +kernel
theorem dX4_step_55 : decode cX4_step 55 = .ok (.putfield 17, 3) := by decide +kernel
theorem dX4_step_58 : decode cX4_step 58 = .ok (.aload_n 0, 1) := by decide +kernel
theorem dX4_step_59 : decode cX4_step 59 = .ok (.aload_n 0, 1) := by decide +kernel
theorem dX4_step_60 : decode cX4_step 60 = .ok (.getfield 17, 3) := by decide +kernel
theorem dX4_step_63 : decode cX4_step 63 = .ok (.ifCond .ne 10, 3) := by decide +kernel
theorem dX4_step_66 : decode cX4_step 66 = .ok (.aload_n 0, 1) := by decide +kernel
theorem dX4_step_67 : decode cX4_step 67 = .ok (.getfield 20, 3) := by decide +kernel
theorem dX4_step_70 : decode cX4_step 70 = .ok (.goto 9, 3) := by decide +kernel
theorem dX4_step_73 : decode cX4_step 73 = .ok (.aload_n 0, 1) := by decide +kernel
theorem dX4_step_74 : decode cX4_step 74 = .ok (.getfield 20, 3) := by decide +kernel
theorem dX4_step_77 : decode cX4_step 77 = .ok (.iconst 1, 1) := by decide +kernel
theorem dX4_step_78 : decode cX4_step 78 = .ok (.iadd, 1) := by decide +kernel
theorem dX4_step_79 : decode cX4_step 79 = .ok (.putfield 26, 3) := by decide +kernel
theorem dX4_step_82 : decode cX4_step 82 = .ok (.aload_n 0, 1) := by decide +kernel
theorem dX4_step_83 : decode cX4_step 83 = .ok (.getfield 17, 3) := by decide +kernel
theorem dX4_step_86 : decode cX4_step 86 = .ok (.iconst 1, 1) := by decide +kernel
theorem dX4_step_87 : decode cX4_step 87 = .ok (.if_icmp .eq 11, 3) := by decide +kernel
theorem dX4_step_90 : decode cX4_step 90 = .ok (.aload_n 0, 1) := by decide +kernel
theorem dX4_step_91 : decode cX4_step 91 = .ok (.getfield 17, 3) := by decide +kernel
theorem dX4_step_94 : decode cX4_step 94 = .ok (.iconst 2, 1) := by decide +kernel
theorem dX4_step_95 : decode cX4_step 95 = .ok (.if_icmp .ne 42, 3) := by decide +kernel
theorem dX4_step_98 : decode cX4_step 98 = .ok (.aload_n 0, 1) := by decide +kernel
theorem dX4_step_99 : decode cX4_step 99 = .ok (.getfield 26, 3) := by decide +kernel
theorem dX4_step_102 : decode cX4_step 102 = .ok (.aload_n 0, 1) := by decide +kernel
theorem dX4_step_103 : decode cX4_step 103 = .ok (.getfield 13, 3) := by decide +kernel
theorem dX4_step_106 : decode cX4_step 106 = .ok (.if_icmp .ge 31, 3) := by decide +kernel
theorem dX4_step_109 : decode cX4_step 109 = .ok (.aload_n 0, 1) := by decide +kernel
theorem dX4_step_110 : decode cX4_step 110 = .ok (.aload_n 0, 1) := by decide +kernel
theorem dX4_step_111 : decode cX4_step 111 = .ok (.getfield 26, 3) := by decide +kernel
theorem dX4_step_114 : decode cX4_step 114 = .ok (.invokevirtual 36, 3) := by decide +kernel
theorem dX4_step_117 : decode cX4_step 117 = .ok (.aload_n 0, 1) := by decide +kernel
theorem dX4_step_118 : decode cX4_step 118 = .ok (.getfield 17, 3) := by decide +kernel
theorem dX4_step_121 : decode cX4_step 121 = .ok (.if_icmp .ne 16, 3) := by decide +kernel
theorem dX4_step_124 : decode cX4_step 124 = .ok (.aload_n 0, 1) := by decide +kernel
theorem dX4_step_125 : decode cX4_step 125 = .ok (.dup, 1) := by decide +kernel
theorem dX4_step_126 : decode cX4_step 126 = .ok (.getfield 26, 3) := by decide +kernel
theorem dX4_step_129 : decode cX4_step 129 = .ok (.iconst 1, 1) := by decide +kernel
theorem dX4_step_130 : decode cX4_step 130 = .ok (.iadd, 1) := by decide +kernel
theorem dX4_step_131 : decode cX4_step 131 = .ok (.putfield 26, 3) := by decide +kernel
theorem dX4_step_134 : decode cX4_step 134 = .ok (.goto (-36), 3) := by decide +kernel
theorem dX4_step_137 : decode cX4_step 137 = .ok (.aload_n 0, 1) := by decide +kernel
theorem dX4_step_138 : decode cX4_step 138 = .ok (.aload_n 0, 1) := by decide +kernel
theorem dX4_step_139 : decode cX4_step 139 = .ok (.getfield 17, 3) := by decide +kernel
theorem dX4_step_142 : decode cX4_step 142 = .ok (.iconst 2, 1) := by decide +kernel
theorem dX4_step_143 : decode cX4_step 143 = .ok (.if_icmp .ne 10, 3) := by decide +kernel
theorem dX4_step_146 : decode cX4_step 146 = .ok (.aload_n 0, 1) := by decide +kernel
theorem dX4_step_147 : decode cX4_step 147 = .ok (.invokevirtual 40, 3) := by decide +kernel
theorem dX4_step_150 : decode cX4_step 150 = .ok (.goto 4, 3) := by decide +kernel
theorem dX4_step_153 : decode cX4_step 153 = .ok (.iconst 0, 1) := by decide +kernel
theorem dX4_step_154 : decode cX4_step 154 = .ok (.putfield 23, 3) := by decide +kernel
theorem dX4_step_157 : decode cX4_step 157 = .ok (.return_, 1) := by decide +kernel
theorem dX4_numberOfDigits_0 : decode cX4_numberOfDigits 0 = .ok (.iconst 0, 1) := by decide +kernel
theorem dX4_numberOfDigits_1 : decode cX4_numberOfDigits 1 = .ok (.istore_n 1, 1) := by decide +kernel
theorem dX4_numberOfDigits_2 : decode cX4_numberOfDigits 2 = .ok (.aload_n 0, 1) := by decide +kernel
theorem dX4_numberOfDigits_3 : decode cX4_numberOfDigits 3 = .ok (.getfield 20, 3) := by decide +kernel
theorem dX4_numberOfDigits_6 : decode cX4_numberOfDigits 6 = .ok (.istore_n 2, 1) := by decide +kernel
theorem dX4_numberOfDigits_7 : decode cX4_numberOfDigits 7 = .ok (.iload_n 2, 1) := by decide +kernel
theorem dX4_numberOfDigits_8 : decode cX4_numberOfDigits 8 = .ok (.aload_n 0, 1) := by decide +kernel
theorem dX4_numberOfDigits_9 : decode cX4_numberOfDigits 9 = .ok (.getfield 26, 3) := by decide +kernel
theorem dX4_numberOfDigits_12 : decode cX4_numberOfDigits 12 = .ok (.if_icmp .ge 30, 3) := by decide +kernel
theorem dX4_numberOfDigits_15 : decode cX4_numberOfDigits 15 = .ok (.iload_n 1, 1) := by decide +kernel
theorem dX4_numberOfDigits_16 : decode cX4_numberOfDigits 16 = .ok (.bipush 10, 2) := by decide +kernel
theorem dX4_numberOfDigits_18 : decode cX4_numberOfDigits 18 = .ok (.imul, 1) := by decide +kernel
theorem dX4_numberOfDigits_19 : decode cX4_numberOfDigits 19 = .ok (.aload_n 0, 1) := by decide +kernel
theorem dX4_numberOfDigits_20 : decode cX4_numberOfDigits 20 = .ok (.getfield 9, 3) := by decide +kernel
theorem dX4_numberOfDigits_23 : decode cX4_numberOfDigits 23 = .ok (.iload_n 2, 1) := by decide +kernel
theorem dX4_numberOfDigits_24 : decode cX4_numberOfDigits 24 = .ok (.iaload, 1) := by decide +kernel
theorem dX4_numberOfDigits_25 : decode cX4_numberOfDigits 25 = .ok (.iadd, 1) := by decide +kernel
theorem dX4_numberOfDigits_26 : decode cX4_numberOfDigits 26 = .ok (.bipush 48, 2) := by decide +kernel
theorem dX4_numberOfDigits_28 : decode cX4_numberOfDigits 28 = .ok (.isub, 1) := by decide +kernel
theorem dX4_numberOfDigits_29 : decode cX4_numberOfDigits 29 = .ok (.sipush 1000, 3) := by decide +kernel
theorem dX4_numberOfDigits_32 : decode cX4_numberOfDigits 32 = .ok (.invokestatic 44, 3) := by decide +kernel
theorem dX4_numberOfDigits_35 : decode cX4_numberOfDigits 35 = .ok (.istore_n 1, 1) := by decide +kernel
theorem dX4_numberOfDigits_36 : decode cX4_numberOfDigits 36 = .ok (.iinc 2 1, 3) := by decide +kernel
theorem dX4_numberOfDigits_39 : decode cX4_numberOfDigits 39 = .ok (.goto (-32), 3) := by decide +kernel
theorem dX4_numberOfDigits_42 : decode cX4_numberOfDigits 42 = .ok (.iload_n 1, 1) := by decide +kernel
theorem dX4_numberOfDigits_43 : decode cX4_numberOfDigits 43 = .ok (.ireturn, 1) := by decide +kernel
theorem dX4_tokenWith_0 : decode cX4_tokenWith 0 = .ok (.iload_n 1, 1) := by decide +kernel
theorem dX4_tokenWith_1 : decode cX4_tokenWith 1 = .ok (.ifCond .lt 11, 3) := by decide +kernel
theorem dX4_tokenWith_4 : decode cX4_tokenWith 4 = .ok (.iload_n 1, 1) := by decide +kernel
theorem dX4_tokenWith_5 : decode cX4_tokenWith 5 = .ok (.aload_n 0, 1) := by decide +kernel
theorem dX4_tokenWith_6 : decode cX4_tokenWith 6 = .ok (.getfield 13, 3) := by decide +kernel
theorem dX4_tokenWith_9 : decode cX4_tokenWith 9 = .ok (.if_icmp .lt 5, 3) := by decide +kernel
theorem dX4_tokenWith_12 : decode cX4_tokenWith 12 = .ok (.iconst 0, 1) := by decide +kernel
theorem dX4_tokenWith_13 : decode cX4_tokenWith 13 = .ok (.ireturn, 1) := by decide +kernel
theorem dX4_tokenWith_14 : decode cX4_tokenWith 14 = .ok (.aload_n 0, 1) := by decide +kernel
theorem dX4_tokenWith_15 : decode cX4_tokenWith 15 = .ok (.getfield 9, 3) := by decide +kernel
theorem dX4_tokenWith_18 : decode cX4_tokenWith 18 = .ok (.iload_n 1, 1) := by decide +kernel
theorem dX4_tokenWith_19 : decode cX4_tokenWith 19 = .ok (.iaload, 1) := by decide +kernel
theorem dX4_tokenWith_20 : decode cX4_tokenWith 20 = .ok (.istore_n 2, 1) := by decide +kernel
theorem dX4_tokenWith_21 : decode cX4_tokenWith 21 = .ok (.iload_n 2, 1) := by decide +kernel
theorem dX4_tokenWith_22 : decode cX4_tokenWith 22 = .ok (.bipush 97, 2) := by decide +kernel
theorem dX4_tokenWith_24 : decode cX4_tokenWith 24 = .ok (.if_icmp .lt 11, 3) := by decide +kernel
theorem dX4_tokenWith_27 : decode cX4_tokenWith 27 = .ok (.iload_n 2, 1) := by decide +kernel
theorem dX4_tokenWith_28 : decode cX4_tokenWith 28 = .ok (.bipush 122, 2) := by decide +kernel
theorem dX4_tokenWith_30 : decode cX4_tokenWith 30 = .ok (.if_icmp .gt 5, 3) := by decide +kernel
theorem dX4_tokenWith_33 : decode cX4_tokenWith 33 = .ok (.iconst 1, 1) := by decide +kernel
theorem dX4_tokenWith_34 : decode cX4_tokenWith 34 = .ok (.ireturn, 1) := by decide +kernel
theorem dX4_tokenWith_35 : decode cX4_tokenWith 35 = .ok (.iload_n 2, 1) := by decide +kernel
theorem dX4_tokenWith_36 : decode cX4_tokenWith 36 = .ok (.bipush 48, 2) := by decide +kernel
theorem dX4_tokenWith_38 : decode cX4_tokenWith 38 = .ok (.if_icmp .lt 11, 3) := by decide +kernel
theorem dX4_tokenWith_41 : decode cX4_tokenWith 41 = .ok (.iload_n 2, 1) := by decide +kernel
theorem dX4_tokenWith_42 : decode cX4_tokenWith 42 = .ok (.bipush 57, 2) := by decide +kernel
theorem dX4_tokenWith_44 : decode cX4_tokenWith 44 = .ok (.if_icmp .gt 5, 3) := by decide +kernel
theorem dX4_tokenWith_47 : decode cX4_tokenWith 47 = .ok (.iconst 2, 1) := by decide +kernel
theorem dX4_tokenWith_48 : decode cX4_tokenWith 48 = .ok (.ireturn, 1) := by decide +kernel
theorem dX4_tokenWith_49 : decode cX4_tokenWith 49 = .ok (.iload_n 2, 1) := by decide +kernel
theorem dX4_tokenWith_50 : decode cX4_tokenWith 50 = .ok (.bipush 59, 2) := by decide +kernel
theorem dX4_tokenWith_52 : decode cX4_tokenWith 52 = .ok (.if_icmp .ne 7, 3) := by decide +kernel
theorem dX4_tokenWith_55 : decode cX4_tokenWith 55 = .ok (.iconst 3, 1) := by decide +kernel
theorem dX4_tokenWith_56 : decode cX4_tokenWith 56 = .ok (.goto 4, 3) := by decide +kernel
theorem dX4_tokenWith_59 : decode cX4_tokenWith 59 = .ok (.iconst 4, 1) := by decide +kernel
theorem dX4_tokenWith_60 : decode cX4_tokenWith 60 = .ok (.ireturn, 1) := by decide +kernel
theorem dX4_isAt_0 : decode cX4_isAt 0 = .ok (.aload_n 0, 1) := by decide +kernel
theorem dX4_isAt_1 : decode cX4_isAt 1 = .ok (.getfield 17, 3) := by decide +kernel
theorem dX4_isAt_4 : decode cX4_isAt 4 = .ok (.iconst 1, 1) := by decide +kernel
theorem dX4_isAt_5 : decode cX4_isAt 5 = .ok (.if_icmp .ne 19, 3) := by decide +kernel
theorem dX4_isAt_8 : decode cX4_isAt 8 = .ok (.aload_n 0, 1) := by decide +kernel
theorem dX4_isAt_9 : decode cX4_isAt 9 = .ok (.getfield 26, 3) := by decide +kernel
theorem dX4_isAt_12 : decode cX4_isAt 12 = .ok (.aload_n 0, 1) := by decide +kernel
theorem dX4_isAt_13 : decode cX4_isAt 13 = .ok (.getfield 20, 3) := by decide +kernel
theorem dX4_isAt_16 : decode cX4_isAt 16 = .ok (.isub, 1) := by decide +kernel
theorem dX4_isAt_17 : decode cX4_isAt 17 = .ok (.aload_n 1, 1) := by decide +kernel
theorem dX4_isAt_18 : decode cX4_isAt 18 = .ok (.invokevirtual 50, 3) := by decide +kernel
theorem dX4_isAt_21 : decode cX4_isAt 21 = .ok (.if_icmp .eq 5, 3) := by decide +kernel
theorem dX4_isAt_24 : decode cX4_isAt 24 = .ok (.iconst 0, 1) := by decide +kernel
theorem dX4_isAt_25 : decode cX4_isAt 25 = .ok (.ireturn, 1) := by decide +kernel
theorem dX4_isAt_26 : decode cX4_isAt 26 = .ok (.iconst 0, 1) := by decide +kernel
theorem dX4_isAt_27 : decode cX4_isAt 27 = .ok (.istore_n 2, 1) := by decide +kernel
theorem dX4_isAt_28 : decode cX4_isAt 28 = .ok (.iload_n 2, 1) := by decide +kernel
theorem dX4_isAt_29 : decode cX4_isAt 29 = .ok (.aload_n 1, 1) := by decide +kernel
theorem dX4_isAt_30 : decode cX4_isAt 30 = .ok (.invokevirtual 50, 3) := by decide +kernel
theorem dX4_isAt_33 : decode cX4_isAt 33 = .ok (.if_icmp .ge 30, 3) := by decide +kernel
theorem dX4_isAt_36 : decode cX4_isAt 36 = .ok (.aload_n 0, 1) := by decide +kernel
theorem dX4_isAt_37 : decode cX4_isAt 37 = .ok (.getfield 9, 3) := by decide +kernel
theorem dX4_isAt_40 : decode cX4_isAt 40 = .ok (.aload_n 0, 1) := by decide +kernel
theorem dX4_isAt_41 : decode cX4_isAt 41 = .ok (.getfield 20, 3) := by decide +kernel
theorem dX4_isAt_44 : decode cX4_isAt 44 = .ok (.iload_n 2, 1) := by decide +kernel
theorem dX4_isAt_45 : decode cX4_isAt 45 = .ok (.iadd, 1) := by decide +kernel
theorem dX4_isAt_46 : decode cX4_isAt 46 = .ok (.iaload, 1) := by decide +kernel
theorem dX4_isAt_47 : decode cX4_isAt 47 = .ok (.aload_n 1, 1) := by decide +kernel
theorem dX4_isAt_48 : decode cX4_isAt 48 = .ok (.iload_n 2, 1) := by decide +kernel
theorem dX4_isAt_49 : decode cX4_isAt 49 = .ok (.invokevirtual 54, 3) := by decide +kernel
theorem dX4_isAt_52 : decode cX4_isAt 52 = .ok (.if_icmp .eq 5, 3) := by decide +kernel
theorem dX4_isAt_55 : decode cX4_isAt 55 = .ok (.iconst 0, 1) := by decide +kernel
theorem dX4_isAt_56 : decode cX4_isAt 56 = .ok (.ireturn, 1) := by decide +kernel
theorem dX4_isAt_57 : decode cX4_isAt 57 = .ok (.iinc 2 1, 3) := by decide +kernel
theorem dX4_isAt_60 : decode cX4_isAt 60 = .ok (.goto (-32), 3) := by decide +kernel
theorem dX4_isAt_63 : decode cX4_isAt 63 = .ok (.iconst 1, 1) := by decide +kernel
theorem dX4_isAt_64 : decode cX4_isAt 64 = .ok (.ireturn, 1) := by decide +kernel
theorem dX5_init_0 : decode cX5_init 0 = .ok (.aload_n 0, 1) := by decide +kernel
theorem dX5_init_1 : decode cX5_init 1 = .ok (.invokespecial 1, 3) := by decide +kernel
theorem dX5_init_4 : decode cX5_init 4 = .ok (.aload_n 0, 1) := by decide +kernel
theorem dX5_init_5 : decode cX5_init 5 = .ok (.new 7, 3) := by decide +kernel
theorem dX5_init_8 : decode cX5_init 8 = .ok (.dup, 1) := by decide +kernel
theorem dX5_init_9 : decode cX5_init 9 = .ok (.invokespecial 9, 3) := by decide +kernel
theorem dX5_init_12 : decode cX5_init 12 = .ok (.putfield 10, 3) := by decide +kernel
theorem dX5_init_15 : decode cX5_init 15 = .ok (.aload_n 0, 1) := by decide +kernel
theorem dX5_init_16 : decode cX5_init 16 = .ok (.new 7, 3) := by decide +kernel
theorem dX5_init_19 : decode cX5_init 19 = .ok (.dup, 1) := by decide +kernel
theorem dX5_init_20 : decode cX5_init 20 = .ok (.invokespecial 9, 3) := by decide +kernel
theorem dX5_init_23 : decode cX5_init 23 = .ok (.putfield 16, 3) := by decide +kernel
theorem dX5_init_26 : decode cX5_init 26 = .ok (.aload_n 0, 1) := by decide +kernel
theorem dX5_init_27 : decode cX5_init 27 = .ok (.new 7, 3) := by decide +kernel
theorem dX5_init_30 : decode cX5_init 30 = .ok (.dup, 1) := by decide +kernel
theorem dX5_init_31 : decode cX5_init 31 = .ok (.invokespecial 9, 3) := by decide +kernel
theorem dX5_init_34 : decode cX5_init 34 = .ok (.putfield 19, 3) := by decide +kernel
theorem dX5_init_37 : decode cX5_init 37 = .ok (.aload_n 0, 1) := by decide +kernel
theorem dX5_init_38 : decode cX5_init 38 = .ok (.new 22, 3) := by decide +kernel
theorem dX5_init_41 : decode cX5_init 41 = .ok (.dup, 1) := by decide +kernel
theorem dX5_init_42 : decode cX5_init 42 = .ok (.invokespecial 24, 3) := by decide +kernel
theorem dX5_init_45 : decode cX5_init 45 = .ok (.putfield 25, 3) := by decide +kernel
theorem dX5_init_48 : decode cX5_init 48 = .ok (.aload_n 0, 1) := by decide +kernel
theorem dX5_init_49 : decode cX5_init 49 = .ok (.iconst 4, 1) := by decide +kernel
theorem dX5_init_50 : decode cX5_init 50 = .ok (.anewarray 29, 3) := by decide +kernel
theorem dX5_init_53 : decode cX5_init 53 = .ok (.putfield 31, 3) := by decide +kernel
theorem dX5_init_56 : decode cX5_init 56 = .ok (.aload_n 0, 1) := by decide +kernel
theorem dX5_init_57 : decode cX5_init 57 = .ok (.bipush 7, 2) := by decide +kernel
theorem dX5_init_59 : decode cX5_init 59 = .ok (.newarray .int, 2) := by decide +kernel
theorem dX5_init_61 : decode cX5_init 61 = .ok (.putfield 35, 3) := by decide +kernel
theorem dX5_init_64 : decode cX5_init 64 = .ok (.aload_n 0, 1) := by decide +kernel
theorem dX5_init_65 : decode cX5_init 65 = .ok (.iconst 0, 1) := by decide +kernel
theorem dX5_init_66 : decode cX5_init 66 = .ok (.putfield 39, 3) := by decide +kernel
theorem dX5_init_69 : decode cX5_init 69 = .ok (.iconst 0, 1) := by decide +kernel
theorem dX5_init_70 : decode cX5_init 70 = .ok (.istore_n 1, 1) := by decide +kernel
theorem dX5_init_71 : decode cX5_init 71 = .ok (.iload_n 1, 1) := by decide +kernel
theorem dX5_init_72 : decode cX5_init 72 = .ok (.aload_n 0, 1) := by decide +kernel
theorem dX5_init_73 : decode cX5_init 73 = .ok (.getfield 31, 3) := by decide +kernel
theorem dX5_init_76 : decode cX5_init 76 = .ok (.arraylength, 1) := by decide +kernel
theorem dX5_init_77 : decode cX5_init 77 = .ok (.if_icmp .ge 22, 3) := by decide +kernel
theorem dX5_init_80 : decode cX5_init 80 = .ok (.aload_n 0, 1) := by decide +kernel
theorem dX5_init_81 : decode cX5_init 81 = .ok (.getfield 31, 3) := by decide +kernel
theorem dX5_init_84 : decode cX5_init 84 = .ok (.iload_n 1, 1) := by decide +kernel
theorem dX5_init_85 : decode cX5_init 85 = .ok (.new 29, 3) := by decide +kernel
theorem dX5_init_88 : decode cX5_init 88 = .ok (.dup, 1) := by decide +kernel
theorem dX5_init_89 : decode cX5_init 89 = .ok (.invokespecial 43, 3) := by decide +kernel
theorem dX5_init_92 : decode cX5_init 92 = .ok (.aastore, 1) := by decide +kernel
theorem dX5_init_93 : decode cX5_init 93 = .ok (.iinc 1 1, 3) := by decide +kernel
theorem dX5_init_96 : decode cX5_init 96 = .ok (.goto (-25), 3) := by decide +kernel
theorem dX5_init_99 : decode cX5_init 99 = .ok (.return_, 1) := by decide +kernel
theorem dX5_singer_0 : decode cX5_singer 0 = .ok (.iload_n 1, 1) := by decide +kernel
theorem dX5_singer_1 : decode cX5_singer 1 = .ok (.iconst 0, 1) := by decide +kernel
theorem dX5_singer_2 : decode cX5_singer 2 = .ok (.bipush 6, 2) := by decide +kernel
theorem dX5_singer_4 : decode cX5_singer 4 = .ok (.invokestatic 46, 3) := by decide +kernel
theorem dX5_singer_7 : decode cX5_singer 7 = .ok (.ifCond .eq 13, 3) := by decide +kernel
theorem dX5_singer_10 : decode cX5_singer 10 = .ok (.iload_n 2, 1) := by decide +kernel
theorem dX5_singer_11 : decode cX5_singer 11 = .ok (.iconst 0, 1) := by decide +kernel
theorem dX5_singer_12 : decode cX5_singer 12 = .ok (.bipush 59, 2) := by decide +kernel
theorem dX5_singer_14 : decode cX5_singer 14 = .ok (.invokestatic 46, 3) := by decide +kernel
theorem dX5_singer_17 : decode cX5_singer 17 = .ok (.ifCond .ne 9, 3) := by decide +kernel
theorem dX5_singer_20 : decode cX5_singer 20 = .ok (.aload_n 0, 1) := by decide +kernel
theorem dX5_singer_21 : decode cX5_singer 21 = .ok (.iconst 0, 1) := by decide +kernel
theorem dX5_singer_22 : decode cX5_singer 22 = .ok (.invokevirtual 50, 3) := by decide +kernel
theorem dX5_singer_25 : decode cX5_singer 25 = .ok (.ireturn, 1) := by decide +kernel
theorem dX5_singer_26 : decode cX5_singer 26 = .ok (.aload_n 0, 1) := by decide +kernel
theorem dX5_singer_27 : decode cX5_singer 27 = .ok (.getfield 10, 3) := by decide +kernel
theorem dX5_singer_30 : decode cX5_singer 30 = .ok (.invokevirtual 54, 3) := by decide +kernel
theorem dX5_singer_33 : decode cX5_singer 33 = .ok (.ifCond .eq 9, 3) := by decide +kernel
theorem dX5_singer_36 : decode cX5_singer 36 = .ok (.aload_n 0, 1) := by decide +kernel
theorem dX5_singer_37 : decode cX5_singer 37 = .ok (.iconst 1, 1) := by decide +kernel
theorem dX5_singer_38 : decode cX5_singer 38 = .ok (.invokevirtual 50, 3) := by decide +kernel
theorem dX5_singer_41 : decode cX5_singer 41 = .ok (.ireturn, 1) := by decide +kernel
theorem dX5_singer_42 : decode cX5_singer 42 = .ok (.aload_n 0, 1) := by decide +kernel
theorem dX5_singer_43 : decode cX5_singer 43 = .ok (.getfield 10, 3) := by decide +kernel
theorem dX5_singer_46 : decode cX5_singer 46 = .ok (.iload_n 1, 1) := by decide +kernel
theorem dX5_singer_47 : decode cX5_singer 47 = .ok (.iload_n 2, 1) := by decide +kernel
theorem dX5_singer_48 : decode cX5_singer 48 = .ok (.invokevirtual 58, 3) := by decide +kernel
theorem dX5_singer_51 : decode cX5_singer 51 = .ok (.ireturn, 1) := by decide +kernel
theorem dX5_of_0 : decode cX5_of 0 = .ok (.aload_n 0, 1) := by decide +kernel
theorem dX5_of_1 : decode cX5_of 1 = .ok (.getfield 10, 3) := by decide +kernel
theorem dX5_of_4 : decode cX5_of 4 = .ok (.iload_n 1, 1) := by decide +kernel
theorem dX5_of_5 : decode cX5_of 5 = .ok (.invokevirtual 62, 3) := by decide +kernel
theorem dX5_of_8 : decode cX5_of 8 = .ok (.ifCond .eq 13, 3) := by decide +kernel
theorem dX5_of_11 : decode cX5_of 11 = .ok (.iload_n 2, 1) := by decide +kernel
theorem dX5_of_12 : decode cX5_of 12 = .ok (.iconst 0, 1) := by decide +kernel
theorem dX5_of_13 : decode cX5_of 13 = .ok (.bipush 13, 2) := by decide +kernel
theorem dX5_of_15 : decode cX5_of 15 = .ok (.invokestatic 46, 3) := by decide +kernel
theorem dX5_of_18 : decode cX5_of 18 = .ok (.ifCond .ne 9, 3) := by decide +kernel
theorem dX5_of_21 : decode cX5_of 21 = .ok (.aload_n 0, 1) := by decide +kernel
theorem dX5_of_22 : decode cX5_of 22 = .ok (.iconst 0, 1) := by decide +kernel
theorem dX5_of_23 : decode cX5_of 23 = .ok (.invokevirtual 50, 3) := by decide +kernel
theorem dX5_of_26 : decode cX5_of 26 = .ok (.ireturn, 1) := by decide +kernel
theorem dX5_of_27 : decode cX5_of 27 = .ok (.aload_n 0, 1) := by decide +kernel
theorem dX5_of_28 : decode cX5_of 28 = .ok (.getfield 10, 3) := by decide +kernel
theorem dX5_of_31 : decode cX5_of 31 = .ok (.iload_n 1, 1) := by decide +kernel
theorem dX5_of_32 : decode cX5_of 32 = .ok (.iload_n 2, 1) := by decide +kernel
theorem dX5_of_33 : decode cX5_of 33 = .ok (.invokevirtual 66, 3) := by decide +kernel
theorem dX5_of_36 : decode cX5_of 36 = .ok (.ireturn, 1) := by decide +kernel
theorem dX5_change_0 : decode cX5_change 0 = .ok (.aload_n 0, 1) := by decide +kernel
theorem dX5_change_1 : decode cX5_change 1 = .ok (.getfield 10, 3) := by decide +kernel
theorem dX5_change_4 : decode cX5_change 4 = .ok (.iload_n 1, 1) := by decide +kernel
theorem dX5_change_5 : decode cX5_change 5 = .ok (.invokevirtual 62, 3) := by decide +kernel
theorem dX5_change_8 : decode cX5_change 8 = .ok (.ifCond .eq 16, 3) := by decide +kernel
theorem dX5_change_11 : decode cX5_change 11 = .ok (.aload_n 0, 1) := by decide +kernel
theorem dX5_change_12 : decode cX5_change 12 = .ok (.getfield 10, 3) := by decide +kernel
theorem dX5_change_15 : decode cX5_change 15 = .ok (.iload_n 1, 1) := by decide +kernel
theorem dX5_change_16 : decode cX5_change 16 = .ok (.iload_n 2, 1) := by decide +kernel
theorem dX5_change_17 : decode cX5_change 17 = .ok (.iload_n 3, 1) := by decide +kernel
theorem dX5_change_18 : decode cX5_change 18 = .ok (.invokevirtual 69, 3) := by decide +kernel
theorem dX5_change_21 : decode cX5_change 21 = .ok (.ifCond .ne 9, 3) := by decide +kernel
theorem dX5_change_24 : decode cX5_change 24 = .ok (.aload_n 0, 1) := by decide +kernel
theorem dX5_change_25 : decode cX5_change 25 = .ok (.iconst 0, 1) := by decide +kernel
theorem dX5_change_26 : decode cX5_change 26 = .ok (.invokevirtual 50, 3) := by decide +kernel
theorem dX5_change_29 : decode cX5_change 29 = .ok (.ireturn, 1) := by decide +kernel
theorem dX5_change_30 : decode cX5_change 30 = .ok (.aload_n 0, 1) := by decide +kernel
theorem dX5_change_31 : decode cX5_change 31 = .ok (.getfield 10, 3) := by decide +kernel
theorem dX5_change_34 : decode cX5_change 34 = .ok (.iload_n 1, 1) := by decide +kernel
theorem dX5_change_35 : decode cX5_change 35 = .ok (.iload_n 2, 1) := by decide +kernel
theorem dX5_change_36 : decode cX5_change 36 = .ok (.invokevirtual 66, 3) := by decide +kernel
theorem dX5_change_39 : decode cX5_change 39 = .ok (.istore 4, 2) := by decide +kernel
theorem dX5_change_41 : decode cX5_change 41 = .ok (.aload_n 0, 1) := by decide +kernel
theorem dX5_change_42 : decode cX5_change 42 = .ok (.getfield 10, 3) := by decide +kernel
theorem dX5_change_45 : decode cX5_change 45 = .ok (.iload_n 1, 1) := by decide +kernel
theorem dX5_change_46 : decode cX5_change 46 = .ok (.iload_n 2, 1) := by decide +kernel
theorem dX5_change_47 : decode cX5_change 47 = .ok (.iload_n 3, 1) := by decide +kernel
theorem dX5_change_48 : decode cX5_change 48 = .ok (.invokevirtual 72, 3) := by decide +kernel
theorem dX5_change_51 : decode cX5_change 51 = .ok (.iload 4, 2) := by decide +kernel
theorem dX5_change_53 : decode cX5_change 53 = .ok (.ireturn, 1) := by decide +kernel
theorem dX5_answerers_0 : decode cX5_answerers 0 = .ok (.aload_n 0, 1) := by decide +kernel
theorem dX5_answerers_1 : decode cX5_answerers 1 = .ok (.getfield 10, 3) := by decide +kernel
theorem dX5_answerers_4 : decode cX5_answerers 4 = .ok (.iload_n 1, 1) := by decide +kernel
theorem dX5_answerers_5 : decode cX5_answerers 5 = .ok (.invokevirtual 62, 3) := by decide +kernel
theorem dX5_answerers_8 : decode cX5_answerers 8 = .ok (.ifCond .ne 9, 3) := by decide +kernel
theorem dX5_answerers_11 : decode cX5_answerers 11 = .ok (.aload_n 0, 1) := by decide +kernel
theorem dX5_answerers_12 : decode cX5_answerers 12 = .ok (.iconst 0, 1) := by decide +kernel
theorem dX5_answerers_13 : decode cX5_answerers 13 = .ok (.invokevirtual 50, 3) := by decide +kernel
theorem dX5_answerers_16 : decode cX5_answerers 16 = .ok (.ireturn, 1) := by decide +kernel
theorem dX5_answerers_17 : decode cX5_answerers 17 = .ok (.aload_n 0, 1) := by decide +kernel
theorem dX5_answerers_18 : decode cX5_answerers 18 = .ok (.getfield 10, 3) := by decide +kernel
theorem dX5_answerers_21 : decode cX5_answerers 21 = .ok (.iload_n 1, 1) := by decide +kernel
theorem dX5_answerers_22 : decode cX5_answerers 22 = .ok (.invokevirtual 76, 3) := by decide +kernel
theorem dX5_answerers_25 : decode cX5_answerers 25 = .ok (.ireturn, 1) := by decide +kernel
theorem dX5_strike_0 : decode cX5_strike 0 = .ok (.aload_n 0, 1) := by decide +kernel
theorem dX5_strike_1 : decode cX5_strike 1 = .ok (.getfield 10, 3) := by decide +kernel
theorem dX5_strike_4 : decode cX5_strike 4 = .ok (.iload_n 1, 1) := by decide +kernel
theorem dX5_strike_5 : decode cX5_strike 5 = .ok (.invokevirtual 62, 3) := by decide +kernel
theorem dX5_strike_8 : decode cX5_strike 8 = .ok (.ifCond .ne 9, 3) := by decide +kernel
theorem dX5_strike_11 : decode cX5_strike 11 = .ok (.aload_n 0, 1) := by decide +kernel
theorem dX5_strike_12 : decode cX5_strike 12 = .ok (.iconst 0, 1) := by decide +kernel
theorem dX5_strike_13 : decode cX5_strike 13 = .ok (.invokevirtual 50, 3) := by decide +kernel
theorem dX5_strike_16 : decode cX5_strike 16 = .ok (.ireturn, 1) := by decide +kernel
theorem dX5_strike_17 : decode cX5_strike 17 = .ok (.aload_n 0, 1) := by decide +kernel
theorem dX5_strike_18 : decode cX5_strike 18 = .ok (.getfield 10, 3) := by decide +kernel
theorem dX5_strike_21 : decode cX5_strike 21 = .ok (.iload_n 1, 1) := by decide +kernel
theorem dX5_strike_22 : decode cX5_strike 22 = .ok (.bipush 6, 2) := by decide +kernel
theorem dX5_strike_24 : decode cX5_strike 24 = .ok (.invokevirtual 66, 3) := by decide +kernel
theorem dX5_strike_27 : decode cX5_strike 27 = .ok (.ifCond .eq 9, 3) := by decide +kernel
theorem dX5_strike_30 : decode cX5_strike 30 = .ok (.aload_n 0, 1) := by decide +kernel
theorem dX5_strike_31 : decode cX5_strike 31 = .ok (.iconst 4, 1) := by decide +kernel
theorem dX5_strike_32 : decode cX5_strike 32 = .ok (.invokevirtual 50, 3) := by decide +kernel
theorem dX5_strike_35 : decode cX5_strike 35 = .ok (.ireturn, 1) := by decide +kernel
theorem dX5_strike_36 : decode cX5_strike 36 = .ok (.aload_n 0, 1) := by decide +kernel
theorem dX5_strike_37 : decode cX5_strike 37 = .ok (.getfield 10, 3) := by decide +kernel
theorem dX5_strike_40 : decode cX5_strike 40 = .ok (.iload_n 1, 1) := by decide +kernel
theorem dX5_strike_41 : decode cX5_strike 41 = .ok (.invokevirtual 79, 3) := by decide +kernel
theorem dX5_strike_44 : decode cX5_strike 44 = .ok (.aload_n 0, 1) := by decide +kernel
theorem dX5_strike_45 : decode cX5_strike 45 = .ok (.getfield 10, 3) := by decide +kernel
theorem dX5_strike_48 : decode cX5_strike 48 = .ok (.iload_n 1, 1) := by decide +kernel
theorem dX5_strike_49 : decode cX5_strike 49 = .ok (.bipush 7, 2) := by decide +kernel
theorem dX5_strike_51 : decode cX5_strike 51 = .ok (.invokevirtual 66, 3) := by decide +kernel
theorem dX5_strike_54 : decode cX5_strike 54 = .ok (.ireturn, 1) := by decide +kernel
theorem dX5_go_0 : decode cX5_go 0 = .ok (.iload_n 1, 1) := by decide +kernel
theorem dX5_go_1 : decode cX5_go 1 = .ok (.iconst 1, 1) := by decide +kernel
theorem dX5_go_2 : decode cX5_go 2 = .ok (.bipush 60, 2) := by decide +kernel
theorem dX5_go_4 : decode cX5_go 4 = .ok (.invokestatic 46, 3) := by decide +kernel
theorem dX5_go_7 : decode cX5_go 7 = .ok (.ifCond .ne 9, 3) := by decide +kernel
theorem dX5_go_10 : decode cX5_go 10 = .ok (.aload_n 0, 1) := by decide +kernel
theorem dX5_go_11 : decode cX5_go 11 = .ok (.iconst 0, 1) := by decide +kernel
theorem dX5_go_12 : decode cX5_go 12 = .ok (.invokevirtual 50, 3) := by decide +kernel
theorem dX5_go_15 : decode cX5_go 15 = .ok (.ireturn, 1) := by decide +kernel
theorem dX5_go_16 : decode cX5_go 16 = .ok (.aload_n 0, 1) := by decide +kernel
theorem dX5_go_17 : decode cX5_go 17 = .ok (.getfield 10, 3) := by decide +kernel
theorem dX5_go_20 : decode cX5_go 20 = .ok (.iload_n 1, 1) := by decide +kernel
theorem dX5_go_21 : decode cX5_go 21 = .ok (.invokevirtual 83, 3) := by decide +kernel
theorem dX5_go_24 : decode cX5_go 24 = .ok (.ifCond .ne 9, 3) := by decide +kernel
theorem dX5_go_27 : decode cX5_go 27 = .ok (.aload_n 0, 1) := by decide +kernel
theorem dX5_go_28 : decode cX5_go 28 = .ok (.iconst 4, 1) := by decide +kernel
theorem dX5_go_29 : decode cX5_go 29 = .ok (.invokevirtual 50, 3) := by decide +kernel
theorem dX5_go_32 : decode cX5_go 32 = .ok (.ireturn, 1) := by decide +kernel
theorem dX5_go_33 : decode cX5_go 33 = .ok (.aload_n 0, 1) := by decide +kernel
theorem dX5_go_34 : decode cX5_go 34 = .ok (.getfield 10, 3) := by decide +kernel
theorem dX5_go_37 : decode cX5_go 37 = .ok (.iload_n 1, 1) := by decide +kernel
theorem dX5_go_38 : decode cX5_go 38 = .ok (.invokevirtual 86, 3) := by decide +kernel
theorem dX5_go_41 : decode cX5_go 41 = .ok (.aload_n 0, 1) := by decide +kernel
theorem dX5_go_42 : decode cX5_go 42 = .ok (.getfield 10, 3) := by decide +kernel
theorem dX5_go_45 : decode cX5_go 45 = .ok (.invokevirtual 89, 3) := by decide +kernel
theorem dX5_go_48 : decode cX5_go 48 = .ok (.ireturn, 1) := by decide +kernel
theorem dX5_now_0 : decode cX5_now 0 = .ok (.iload_n 1, 1) := by decide +kernel
theorem dX5_now_1 : decode cX5_now 1 = .ok (.tableswitch 114 0 7 #[47, 55, 63, 71, 79, 89, 97, 106], 47) := by decide +kernel
theorem dX5_now_48 : decode cX5_now 48 = .ok (.aload_n 0, 1) := by decide +kernel
theorem dX5_now_49 : decode cX5_now 49 = .ok (.getfield 10, 3) := by decide +kernel
theorem dX5_now_52 : decode cX5_now 52 = .ok (.getfield 93, 3) := by decide +kernel
theorem dX5_now_55 : decode cX5_now 55 = .ok (.ireturn, 1) := by decide +kernel
theorem dX5_now_56 : decode cX5_now 56 = .ok (.aload_n 0, 1) := by decide +kernel
theorem dX5_now_57 : decode cX5_now 57 = .ok (.getfield 10, 3) := by decide +kernel
theorem dX5_now_60 : decode cX5_now 60 = .ok (.invokevirtual 89, 3) := by decide +kernel
theorem dX5_now_63 : decode cX5_now 63 = .ok (.ireturn, 1) := by decide +kernel
theorem dX5_now_64 : decode cX5_now 64 = .ok (.aload_n 0, 1) := by decide +kernel
theorem dX5_now_65 : decode cX5_now 65 = .ok (.getfield 10, 3) := by decide +kernel
theorem dX5_now_68 : decode cX5_now 68 = .ok (.invokevirtual 97, 3) := by decide +kernel
theorem dX5_now_71 : decode cX5_now 71 = .ok (.ireturn, 1) := by decide +kernel
theorem dX5_now_72 : decode cX5_now 72 = .ok (.aload_n 0, 1) := by decide +kernel
theorem dX5_now_73 : decode cX5_now 73 = .ok (.getfield 10, 3) := by decide +kernel
theorem dX5_now_76 : decode cX5_now 76 = .ok (.getfield 100, 3) := by decide +kernel
theorem dX5_now_79 : decode cX5_now 79 = .ok (.ireturn, 1) := by decide +kernel
theorem dX5_now_80 : decode cX5_now 80 = .ok (.aload_n 0, 1) := by decide +kernel
theorem dX5_now_81 : decode cX5_now 81 = .ok (.getfield 10, 3) := by decide +kernel
theorem dX5_now_84 : decode cX5_now 84 = .ok (.bipush 9, 2) := by decide +kernel
theorem dX5_now_86 : decode cX5_now 86 = .ok (.invokevirtual 103, 3) := by decide +kernel
theorem dX5_now_89 : decode cX5_now 89 = .ok (.ireturn, 1) := by decide +kernel
theorem dX5_now_90 : decode cX5_now 90 = .ok (.aload_n 0, 1) := by decide +kernel
theorem dX5_now_91 : decode cX5_now 91 = .ok (.getfield 10, 3) := by decide +kernel
theorem dX5_now_94 : decode cX5_now 94 = .ok (.invokevirtual 106, 3) := by decide +kernel
theorem dX5_now_97 : decode cX5_now 97 = .ok (.ireturn, 1) := by decide +kernel
theorem dX5_now_98 : decode cX5_now 98 = .ok (.aload_n 0, 1) := by decide +kernel
theorem dX5_now_99 : decode cX5_now 99 = .ok (.getfield 10, 3) := by decide +kernel
theorem dX5_now_102 : decode cX5_now 102 = .ok (.iconst 3, 1) := by decide +kernel
theorem dX5_now_103 : decode cX5_now 103 = .ok (.invokevirtual 103, 3) := by decide +kernel
theorem dX5_now_106 : decode cX5_now 106 = .ok (.ireturn, 1) := by decide +kernel
theorem dX5_now_107 : decode cX5_now 107 = .ok (.aload_n 0, 1) := by decide +kernel
theorem dX5_now_108 : decode cX5_now 108 = .ok (.getfield 10, 3) := by decide +kernel
theorem dX5_now_111 : decode cX5_now 111 = .ok (.invokevirtual 109, 3) := by decide +kernel
theorem dX5_now_114 : decode cX5_now 114 = .ok (.ireturn, 1) := by decide +kernel
theorem dX5_now_115 : decode cX5_now 115 = .ok (.aload_n 0, 1) := by decide +kernel
theorem dX5_now_116 : decode cX5_now 116 = .ok (.iconst 0, 1) := by decide +kernel
theorem dX5_now_117 : decode cX5_now 117 = .ok (.invokevirtual 50, 3) := by decide +kernel
theorem dX5_now_120 : decode cX5_now 120 = .ok (.ireturn, 1) := by decide +kernel
theorem dX5_ahead_0 : decode cX5_ahead 0 = .ok (.aload_n 0, 1) := by decide +kernel
theorem dX5_ahead_1 : decode cX5_ahead 1 = .ok (.getfield 10, 3) := by decide +kernel
theorem dX5_ahead_4 : decode cX5_ahead 4 = .ok (.iload_n 1, 1) := by decide +kernel
theorem dX5_ahead_5 : decode cX5_ahead 5 = .ok (.invokevirtual 62, 3) := by decide +kernel
theorem dX5_ahead_8 : decode cX5_ahead 8 = .ok (.ifCond .eq 21, 3) := by decide +kernel
theorem dX5_ahead_11 : decode cX5_ahead 11 = .ok (.iload_n 2, 1) := by decide +kernel
theorem dX5_ahead_12 : decode cX5_ahead 12 = .ok (.invokestatic 112, 3) := by decide +kernel
theorem dX5_ahead_15 : decode cX5_ahead 15 = .ok (.ifCond .eq 14, 3) := by decide +kernel
theorem dX5_ahead_18 : decode cX5_ahead 18 = .ok (.iload_n 3, 1) := by decide +kernel
theorem dX5_ahead_19 : decode cX5_ahead 19 = .ok (.iconst 0, 1) := by decide +kernel
theorem dX5_ahead_20 : decode cX5_ahead 20 = .ok (.sipush 200, 3) := by decide +kernel
theorem dX5_ahead_23 : decode cX5_ahead 23 = .ok (.invokestatic 46, 3) := by decide +kernel
theorem dX5_ahead_26 : decode cX5_ahead 26 = .ok (.ifCond .ne 9, 3) := by decide +kernel
theorem dX5_ahead_29 : decode cX5_ahead 29 = .ok (.aload_n 0, 1) := by decide +kernel
theorem dX5_ahead_30 : decode cX5_ahead 30 = .ok (.iconst 0, 1) := by decide +kernel
theorem dX5_ahead_31 : decode cX5_ahead 31 = .ok (.invokevirtual 50, 3) := by decide +kernel
theorem dX5_ahead_34 : decode cX5_ahead 34 = .ok (.ireturn, 1) := by decide +kernel
theorem dX5_ahead_35 : decode cX5_ahead 35 = .ok (.aload_n 0, 1) := by decide +kernel
theorem dX5_ahead_36 : decode cX5_ahead 36 = .ok (.getfield 16, 3) := by decide +kernel
theorem dX5_ahead_39 : decode cX5_ahead 39 = .ok (.aload_n 0, 1) := by decide +kernel
theorem dX5_ahead_40 : decode cX5_ahead 40 = .ok (.getfield 10, 3) := by decide +kernel
theorem dX5_ahead_43 : decode cX5_ahead 43 = .ok (.invokevirtual 115, 3) := by decide +kernel
theorem dX5_ahead_46 : decode cX5_ahead 46 = .ok (.aload_n 0, 1) := by decide +kernel
theorem dX5_ahead_47 : decode cX5_ahead 47 = .ok (.getfield 16, 3) := by decide +kernel
theorem dX5_ahead_50 : decode cX5_ahead 50 = .ok (.iload_n 3, 1) := by decide +kernel
theorem dX5_ahead_51 : decode cX5_ahead 51 = .ok (.invokevirtual 86, 3) := by decide +kernel
theorem dX5_ahead_54 : decode cX5_ahead 54 = .ok (.aload_n 0, 1) := by decide +kernel
theorem dX5_ahead_55 : decode cX5_ahead 55 = .ok (.getfield 16, 3) := by decide +kernel
theorem dX5_ahead_58 : decode cX5_ahead 58 = .ok (.iload_n 1, 1) := by decide +kernel
theorem dX5_ahead_59 : decode cX5_ahead 59 = .ok (.iload_n 2, 1) := by decide +kernel
theorem dX5_ahead_60 : decode cX5_ahead 60 = .ok (.invokevirtual 66, 3) := by decide +kernel
theorem dX5_ahead_63 : decode cX5_ahead 63 = .ok (.ireturn, 1) := by decide +kernel
theorem dX5_sings_0 : decode cX5_sings 0 = .ok (.aload_n 0, 1) := by decide +kernel
theorem dX5_sings_1 : decode cX5_sings 1 = .ok (.getfield 10, 3) := by decide +kernel
theorem dX5_sings_4 : decode cX5_sings 4 = .ok (.iload_n 1, 1) := by decide +kernel
theorem dX5_sings_5 : decode cX5_sings 5 = .ok (.invokevirtual 62, 3) := by decide +kernel
theorem dX5_sings_8 : decode cX5_sings 8 = .ok (.ifCond .ne 9, 3) := by decide +kernel
theorem dX5_sings_11 : decode cX5_sings 11 = .ok (.aload_n 0, 1) := by decide +kernel
theorem dX5_sings_12 : decode cX5_sings 12 = .ok (.iconst 0, 1) := by decide +kernel
theorem dX5_sings_13 : decode cX5_sings 13 = .ok (.invokevirtual 50, 3) := by decide +kernel
theorem dX5_sings_16 : decode cX5_sings 16 = .ok (.ireturn, 1) := by decide +kernel
theorem dX5_sings_17 : decode cX5_sings 17 = .ok (.aload_n 0, 1) := by decide +kernel
theorem dX5_sings_18 : decode cX5_sings 18 = .ok (.iconst 1, 1) := by decide +kernel
theorem dX5_sings_19 : decode cX5_sings 19 = .ok (.iload_n 1, 1) := by decide +kernel
theorem dX5_sings_20 : decode cX5_sings 20 = .ok (.ishl, 1) := by decide +kernel
theorem dX5_sings_21 : decode cX5_sings 21 = .ok (.invokevirtual 119, 3) := by decide +kernel
theorem dX5_sings_24 : decode cX5_sings 24 = .ok (.ireturn, 1) := by decide +kernel
theorem dX5_together_0 : decode cX5_together 0 = .ok (.aload_n 0, 1) := by decide +kernel
theorem dX5_together_1 : decode cX5_together 1 = .ok (.getfield 10, 3) := by decide +kernel
theorem dX5_together_4 : decode cX5_together 4 = .ok (.iload_n 1, 1) := by decide +kernel
theorem dX5_together_5 : decode cX5_together 5 = .ok (.invokevirtual 62, 3) := by decide +kernel
theorem dX5_together_8 : decode cX5_together 8 = .ok (.ifCond .eq 19, 3) := by decide +kernel
theorem dX5_together_11 : decode cX5_together 11 = .ok (.aload_n 0, 1) := by decide +kernel
theorem dX5_together_12 : decode cX5_together 12 = .ok (.getfield 10, 3) := by decide +kernel
theorem dX5_together_15 : decode cX5_together 15 = .ok (.iload_n 2, 1) := by decide +kernel
theorem dX5_together_16 : decode cX5_together 16 = .ok (.invokevirtual 62, 3) := by decide +kernel
theorem dX5_together_19 : decode cX5_together 19 = .ok (.ifCond .eq 8, 3) := by decide +kernel
theorem dX5_together_22 : decode cX5_together 22 = .ok (.iload_n 1, 1) := by decide +kernel
theorem dX5_together_23 : decode cX5_together 23 = .ok (.iload_n 2, 1) := by decide +kernel
theorem dX5_together_24 : decode cX5_together 24 = .ok (.if_icmp .ne 9, 3) := by decide +kernel
theorem dX5_together_27 : decode cX5_together 27 = .ok (.aload_n 0, 1) := by decide +kernel
theorem dX5_together_28 : decode cX5_together 28 = .ok (.iconst 0, 1) := by decide +kernel
theorem dX5_together_29 : decode cX5_together 29 = .ok (.invokevirtual 50, 3) := by decide +kernel
theorem dX5_together_32 : decode cX5_together 32 = .ok (.ireturn, 1) := by decide +kernel
theorem dX5_together_33 : decode cX5_together 33 = .ok (.aload_n 0, 1) := by decide +kernel
theorem dX5_together_34 : decode cX5_together 34 = .ok (.iconst 1, 1) := by decide +kernel
theorem dX5_together_35 : decode cX5_together 35 = .ok (.iload_n 1, 1) := by decide +kernel
theorem dX5_together_36 : decode cX5_together 36 = .ok (.ishl, 1) := by decide +kernel
theorem dX5_together_37 : decode cX5_together 37 = .ok (.iconst 1, 1) := by decide +kernel
theorem dX5_together_38 : decode cX5_together 38 = .ok (.iload_n 2, 1) := by decide +kernel
theorem dX5_together_39 : decode cX5_together 39 = .ok (.ishl, 1) := by decide +kernel
theorem dX5_together_40 : decode cX5_together 40 = .ok (.ior, 1) := by decide +kernel
theorem dX5_together_41 : decode cX5_together 41 = .ok (.invokevirtual 119, 3) := by decide +kernel
theorem dX5_together_44 : decode cX5_together 44 = .ok (.ireturn, 1) := by decide +kernel
theorem dX5_rest_0 : decode cX5_rest 0 = .ok (.iload_n 1, 1) := by decide +kernel
theorem dX5_rest_1 : decode cX5_rest 1 = .ok (.iconst 0, 1) := by decide +kernel
theorem dX5_rest_2 : decode cX5_rest 2 = .ok (.ldc 122, 2) := by decide +kernel
theorem dX5_rest_4 : decode cX5_rest 4 = .ok (.invokestatic 46, 3) := by decide +kernel
theorem dX5_rest_7 : decode cX5_rest 7 = .ok (.ifCond .ne 9, 3) := by decide +kernel
theorem dX5_rest_10 : decode cX5_rest 10 = .ok (.aload_n 0, 1) := by decide +kernel
theorem dX5_rest_11 : decode cX5_rest 11 = .ok (.iconst 0, 1) := by decide +kernel
theorem dX5_rest_12 : decode cX5_rest 12 = .ok (.invokevirtual 50, 3) := by decide +kernel
theorem dX5_rest_15 : decode cX5_rest 15 = .ok (.ireturn, 1) := by decide +kernel
theorem dX5_rest_16 : decode cX5_rest 16 = .ok (.aload_n 0, 1) := by decide +kernel
theorem dX5_rest_17 : decode cX5_rest 17 = .ok (.getfield 16, 3) := by decide +kernel
theorem dX5_rest_20 : decode cX5_rest 20 = .ok (.aload_n 0, 1) := by decide +kernel
theorem dX5_rest_21 : decode cX5_rest 21 = .ok (.getfield 10, 3) := by decide +kernel
theorem dX5_rest_24 : decode cX5_rest 24 = .ok (.invokevirtual 115, 3) := by decide +kernel
