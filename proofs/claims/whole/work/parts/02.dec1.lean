theorem dX5_rest_27 : decode cX5_rest 27 = .ok (.iconst 0, 1) := by decide +kernel
theorem dX5_rest_28 : decode cX5_rest 28 = .ok (.istore_n 2, 1) := by decide +kernel
theorem dX5_rest_29 : decode cX5_rest 29 = .ok (.iload_n 2, 1) := by decide +kernel
theorem dX5_rest_30 : decode cX5_rest 30 = .ok (.sipush 400, 3) := by decide +kernel
theorem dX5_rest_33 : decode cX5_rest 33 = .ok (.if_icmp .gt 30, 3) := by decide +kernel
theorem dX5_rest_36 : decode cX5_rest 36 = .ok (.aload_n 0, 1) := by decide +kernel
theorem dX5_rest_37 : decode cX5_rest 37 = .ok (.getfield 16, 3) := by decide +kernel
theorem dX5_rest_40 : decode cX5_rest 40 = .ok (.getfield 100, 3) := by decide +kernel
theorem dX5_rest_43 : decode cX5_rest 43 = .ok (.iload_n 1, 1) := by decide +kernel
theorem dX5_rest_44 : decode cX5_rest 44 = .ok (.if_icmp .lt 5, 3) := by decide +kernel
theorem dX5_rest_47 : decode cX5_rest 47 = .ok (.iload_n 2, 1) := by decide +kernel
theorem dX5_rest_48 : decode cX5_rest 48 = .ok (.ireturn, 1) := by decide +kernel
theorem dX5_rest_49 : decode cX5_rest 49 = .ok (.aload_n 0, 1) := by decide +kernel
theorem dX5_rest_50 : decode cX5_rest 50 = .ok (.getfield 16, 3) := by decide +kernel
theorem dX5_rest_53 : decode cX5_rest 53 = .ok (.iconst 1, 1) := by decide +kernel
theorem dX5_rest_54 : decode cX5_rest 54 = .ok (.invokevirtual 86, 3) := by decide +kernel
theorem dX5_rest_57 : decode cX5_rest 57 = .ok (.iinc 2 1, 3) := by decide +kernel
theorem dX5_rest_60 : decode cX5_rest 60 = .ok (.goto (-31), 3) := by decide +kernel
theorem dX5_rest_63 : decode cX5_rest 63 = .ok (.aload_n 0, 1) := by decide +kernel
theorem dX5_rest_64 : decode cX5_rest 64 = .ok (.iconst 3, 1) := by decide +kernel
theorem dX5_rest_65 : decode cX5_rest 65 = .ok (.invokevirtual 50, 3) := by decide +kernel
theorem dX5_rest_68 : decode cX5_rest 68 = .ok (.ireturn, 1) := by decide +kernel
theorem dX5_when_0 : decode cX5_when 0 = .ok (.aload_n 0, 1) := by decide +kernel
theorem dX5_when_1 : decode cX5_when 1 = .ok (.getfield 10, 3) := by decide +kernel
theorem dX5_when_4 : decode cX5_when 4 = .ok (.iload_n 1, 1) := by decide +kernel
theorem dX5_when_5 : decode cX5_when 5 = .ok (.invokevirtual 62, 3) := by decide +kernel
theorem dX5_when_8 : decode cX5_when 8 = .ok (.ifCond .eq 14, 3) := by decide +kernel
theorem dX5_when_11 : decode cX5_when 11 = .ok (.iload_n 2, 1) := by decide +kernel
theorem dX5_when_12 : decode cX5_when 12 = .ok (.iconst 0, 1) := by decide +kernel
theorem dX5_when_13 : decode cX5_when 13 = .ok (.sipush 9999, 3) := by decide +kernel
theorem dX5_when_16 : decode cX5_when 16 = .ok (.invokestatic 46, 3) := by decide +kernel
theorem dX5_when_19 : decode cX5_when 19 = .ok (.ifCond .ne 9, 3) := by decide +kernel
theorem dX5_when_22 : decode cX5_when 22 = .ok (.aload_n 0, 1) := by decide +kernel
theorem dX5_when_23 : decode cX5_when 23 = .ok (.iconst 0, 1) := by decide +kernel
theorem dX5_when_24 : decode cX5_when 24 = .ok (.invokevirtual 50, 3) := by decide +kernel
theorem dX5_when_27 : decode cX5_when 27 = .ok (.ireturn, 1) := by decide +kernel
theorem dX5_when_28 : decode cX5_when 28 = .ok (.aload_n 0, 1) := by decide +kernel
theorem dX5_when_29 : decode cX5_when 29 = .ok (.getfield 16, 3) := by decide +kernel
theorem dX5_when_32 : decode cX5_when 32 = .ok (.aload_n 0, 1) := by decide +kernel
theorem dX5_when_33 : decode cX5_when 33 = .ok (.getfield 10, 3) := by decide +kernel
theorem dX5_when_36 : decode cX5_when 36 = .ok (.invokevirtual 115, 3) := by decide +kernel
theorem dX5_when_39 : decode cX5_when 39 = .ok (.iconst 0, 1) := by decide +kernel
theorem dX5_when_40 : decode cX5_when 40 = .ok (.istore_n 3, 1) := by decide +kernel
theorem dX5_when_41 : decode cX5_when 41 = .ok (.iload_n 3, 1) := by decide +kernel
theorem dX5_when_42 : decode cX5_when 42 = .ok (.sipush 400, 3) := by decide +kernel
theorem dX5_when_45 : decode cX5_when 45 = .ok (.if_icmp .gt 33, 3) := by decide +kernel
theorem dX5_when_48 : decode cX5_when 48 = .ok (.aload_n 0, 1) := by decide +kernel
theorem dX5_when_49 : decode cX5_when 49 = .ok (.getfield 16, 3) := by decide +kernel
theorem dX5_when_52 : decode cX5_when 52 = .ok (.iload_n 1, 1) := by decide +kernel
theorem dX5_when_53 : decode cX5_when 53 = .ok (.bipush 9, 2) := by decide +kernel
theorem dX5_when_55 : decode cX5_when 55 = .ok (.invokevirtual 66, 3) := by decide +kernel
theorem dX5_when_58 : decode cX5_when 58 = .ok (.iload_n 2, 1) := by decide +kernel
theorem dX5_when_59 : decode cX5_when 59 = .ok (.if_icmp .lt 5, 3) := by decide +kernel
theorem dX5_when_62 : decode cX5_when 62 = .ok (.iload_n 3, 1) := by decide +kernel
theorem dX5_when_63 : decode cX5_when 63 = .ok (.ireturn, 1) := by decide +kernel
theorem dX5_when_64 : decode cX5_when 64 = .ok (.aload_n 0, 1) := by decide +kernel
theorem dX5_when_65 : decode cX5_when 65 = .ok (.getfield 16, 3) := by decide +kernel
theorem dX5_when_68 : decode cX5_when 68 = .ok (.iconst 1, 1) := by decide +kernel
theorem dX5_when_69 : decode cX5_when 69 = .ok (.invokevirtual 86, 3) := by decide +kernel
theorem dX5_when_72 : decode cX5_when 72 = .ok (.iinc 3 1, 3) := by decide +kernel
theorem dX5_when_75 : decode cX5_when 75 = .ok (.goto (-34), 3) := by decide +kernel
theorem dX5_when_78 : decode cX5_when 78 = .ok (.aload_n 0, 1) := by decide +kernel
theorem dX5_when_79 : decode cX5_when 79 = .ok (.iconst 3, 1) := by decide +kernel
theorem dX5_when_80 : decode cX5_when 80 = .ok (.invokevirtual 50, 3) := by decide +kernel
theorem dX5_when_83 : decode cX5_when 83 = .ok (.ireturn, 1) := by decide +kernel
theorem dX5_beginFor_0 : decode cX5_beginFor 0 = .ok (.aload_n 0, 1) := by decide +kernel
theorem dX5_beginFor_1 : decode cX5_beginFor 1 = .ok (.getfield 10, 3) := by decide +kernel
theorem dX5_beginFor_4 : decode cX5_beginFor 4 = .ok (.iload_n 1, 1) := by decide +kernel
theorem dX5_beginFor_5 : decode cX5_beginFor 5 = .ok (.invokevirtual 62, 3) := by decide +kernel
theorem dX5_beginFor_8 : decode cX5_beginFor 8 = .ok (.ifCond .eq 13, 3) := by decide +kernel
theorem dX5_beginFor_11 : decode cX5_beginFor 11 = .ok (.iload_n 2, 1) := by decide +kernel
theorem dX5_beginFor_12 : decode cX5_beginFor 12 = .ok (.iconst 0, 1) := by decide +kernel
theorem dX5_beginFor_13 : decode cX5_beginFor 13 = .ok (.bipush 120, 2) := by decide +kernel
theorem dX5_beginFor_15 : decode cX5_beginFor 15 = .ok (.invokestatic 46, 3) := by decide +kernel
theorem dX5_beginFor_18 : decode cX5_beginFor 18 = .ok (.ifCond .ne 9, 3) := by decide +kernel
theorem dX5_beginFor_21 : decode cX5_beginFor 21 = .ok (.aload_n 0, 1) := by decide +kernel
theorem dX5_beginFor_22 : decode cX5_beginFor 22 = .ok (.iconst 0, 1) := by decide +kernel
theorem dX5_beginFor_23 : decode cX5_beginFor 23 = .ok (.invokevirtual 50, 3) := by decide +kernel
theorem dX5_beginFor_26 : decode cX5_beginFor 26 = .ok (.ireturn, 1) := by decide +kernel
theorem dX5_beginFor_27 : decode cX5_beginFor 27 = .ok (.iconst 0, 1) := by decide +kernel
theorem dX5_beginFor_28 : decode cX5_beginFor 28 = .ok (.istore_n 3, 1) := by decide +kernel
theorem dX5_beginFor_29 : decode cX5_beginFor 29 = .ok (.iconst (-1), 1) := by decide +kernel
theorem dX5_beginFor_30 : decode cX5_beginFor 30 = .ok (.istore 4, 2) := by decide +kernel
theorem dX5_beginFor_32 : decode cX5_beginFor 32 = .ok (.iconst 0, 1) := by decide +kernel
theorem dX5_beginFor_33 : decode cX5_beginFor 33 = .ok (.istore 5, 2) := by decide +kernel
theorem dX5_beginFor_35 : decode cX5_beginFor 35 = .ok (.iload 5, 2) := by decide +kernel
theorem dX5_beginFor_37 : decode cX5_beginFor 37 = .ok (.bipush 60, 2) := by decide +kernel
theorem dX5_beginFor_39 : decode cX5_beginFor 39 = .ok (.if_icmp .ge 43, 3) := by decide +kernel
theorem dX5_beginFor_42 : decode cX5_beginFor 42 = .ok (.aload_n 0, 1) := by decide +kernel
theorem dX5_beginFor_43 : decode cX5_beginFor 43 = .ok (.iload_n 1, 1) := by decide +kernel
theorem dX5_beginFor_44 : decode cX5_beginFor 44 = .ok (.iconst 1, 1) := by decide +kernel
theorem dX5_beginFor_45 : decode cX5_beginFor 45 = .ok (.iload 5, 2) := by decide +kernel
theorem dX5_beginFor_47 : decode cX5_beginFor 47 = .ok (.iload_n 2, 1) := by decide +kernel
theorem dX5_beginFor_48 : decode cX5_beginFor 48 = .ok (.invokevirtual 123, 3) := by decide +kernel
theorem dX5_beginFor_51 : decode cX5_beginFor 51 = .ok (.aload_n 0, 1) := by decide +kernel
theorem dX5_beginFor_52 : decode cX5_beginFor 52 = .ok (.getfield 16, 3) := by decide +kernel
theorem dX5_beginFor_55 : decode cX5_beginFor 55 = .ok (.bipush 9, 2) := by decide +kernel
theorem dX5_beginFor_57 : decode cX5_beginFor 57 = .ok (.invokevirtual 103, 3) := by decide +kernel
theorem dX5_beginFor_60 : decode cX5_beginFor 60 = .ok (.istore 6, 2) := by decide +kernel
theorem dX5_beginFor_62 : decode cX5_beginFor 62 = .ok (.iload 6, 2) := by decide +kernel
theorem dX5_beginFor_64 : decode cX5_beginFor 64 = .ok (.iload 4, 2) := by decide +kernel
theorem dX5_beginFor_66 : decode cX5_beginFor 66 = .ok (.if_icmp .le 10, 3) := by decide +kernel
theorem dX5_beginFor_69 : decode cX5_beginFor 69 = .ok (.iload 6, 2) := by decide +kernel
theorem dX5_beginFor_71 : decode cX5_beginFor 71 = .ok (.istore 4, 2) := by decide +kernel
theorem dX5_beginFor_73 : decode cX5_beginFor 73 = .ok (.iload 5, 2) := by decide +kernel
theorem dX5_beginFor_75 : decode cX5_beginFor 75 = .ok (.istore_n 3, 1) := by decide +kernel
theorem dX5_beginFor_76 : decode cX5_beginFor 76 = .ok (.iinc 5 1, 3) := by decide +kernel
theorem dX5_beginFor_79 : decode cX5_beginFor 79 = .ok (.goto (-44), 3) := by decide +kernel
theorem dX5_beginFor_82 : decode cX5_beginFor 82 = .ok (.iload_n 3, 1) := by decide +kernel
theorem dX5_beginFor_83 : decode cX5_beginFor 83 = .ok (.ireturn, 1) := by decide +kernel
theorem dX5_answerFor_0 : decode cX5_answerFor 0 = .ok (.aload_n 0, 1) := by decide +kernel
theorem dX5_answerFor_1 : decode cX5_answerFor 1 = .ok (.getfield 10, 3) := by decide +kernel
theorem dX5_answerFor_4 : decode cX5_answerFor 4 = .ok (.iload_n 1, 1) := by decide +kernel
theorem dX5_answerFor_5 : decode cX5_answerFor 5 = .ok (.invokevirtual 62, 3) := by decide +kernel
theorem dX5_answerFor_8 : decode cX5_answerFor 8 = .ok (.ifCond .eq 13, 3) := by decide +kernel
theorem dX5_answerFor_11 : decode cX5_answerFor 11 = .ok (.iload_n 2, 1) := by decide +kernel
theorem dX5_answerFor_12 : decode cX5_answerFor 12 = .ok (.iconst 0, 1) := by decide +kernel
theorem dX5_answerFor_13 : decode cX5_answerFor 13 = .ok (.bipush 120, 2) := by decide +kernel
theorem dX5_answerFor_15 : decode cX5_answerFor 15 = .ok (.invokestatic 46, 3) := by decide +kernel
theorem dX5_answerFor_18 : decode cX5_answerFor 18 = .ok (.ifCond .ne 9, 3) := by decide +kernel
theorem dX5_answerFor_21 : decode cX5_answerFor 21 = .ok (.aload_n 0, 1) := by decide +kernel
theorem dX5_answerFor_22 : decode cX5_answerFor 22 = .ok (.iconst 0, 1) := by decide +kernel
theorem dX5_answerFor_23 : decode cX5_answerFor 23 = .ok (.invokevirtual 50, 3) := by decide +kernel
theorem dX5_answerFor_26 : decode cX5_answerFor 26 = .ok (.ireturn, 1) := by decide +kernel
theorem dX5_answerFor_27 : decode cX5_answerFor 27 = .ok (.aload_n 0, 1) := by decide +kernel
theorem dX5_answerFor_28 : decode cX5_answerFor 28 = .ok (.iload_n 1, 1) := by decide +kernel
theorem dX5_answerFor_29 : decode cX5_answerFor 29 = .ok (.iconst 2, 1) := by decide +kernel
theorem dX5_answerFor_30 : decode cX5_answerFor 30 = .ok (.iconst (-1), 1) := by decide +kernel
theorem dX5_answerFor_31 : decode cX5_answerFor 31 = .ok (.iload_n 2, 1) := by decide +kernel
theorem dX5_answerFor_32 : decode cX5_answerFor 32 = .ok (.invokevirtual 123, 3) := by decide +kernel
theorem dX5_answerFor_35 : decode cX5_answerFor 35 = .ok (.iconst (-1), 1) := by decide +kernel
theorem dX5_answerFor_36 : decode cX5_answerFor 36 = .ok (.istore_n 3, 1) := by decide +kernel
theorem dX5_answerFor_37 : decode cX5_answerFor 37 = .ok (.aload_n 0, 1) := by decide +kernel
theorem dX5_answerFor_38 : decode cX5_answerFor 38 = .ok (.getfield 16, 3) := by decide +kernel
theorem dX5_answerFor_41 : decode cX5_answerFor 41 = .ok (.bipush 9, 2) := by decide +kernel
theorem dX5_answerFor_43 : decode cX5_answerFor 43 = .ok (.invokevirtual 103, 3) := by decide +kernel
theorem dX5_answerFor_46 : decode cX5_answerFor 46 = .ok (.istore 4, 2) := by decide +kernel
theorem dX5_answerFor_48 : decode cX5_answerFor 48 = .ok (.aload_n 0, 1) := by decide +kernel
theorem dX5_answerFor_49 : decode cX5_answerFor 49 = .ok (.getfield 10, 3) := by decide +kernel
theorem dX5_answerFor_52 : decode cX5_answerFor 52 = .ok (.getfield 127, 3) := by decide +kernel
theorem dX5_answerFor_55 : decode cX5_answerFor 55 = .ok (.iconst 1, 1) := by decide +kernel
theorem dX5_answerFor_56 : decode cX5_answerFor 56 = .ok (.isub, 1) := by decide +kernel
theorem dX5_answerFor_57 : decode cX5_answerFor 57 = .ok (.istore 5, 2) := by decide +kernel
theorem dX5_answerFor_59 : decode cX5_answerFor 59 = .ok (.iload 5, 2) := by decide +kernel
theorem dX5_answerFor_61 : decode cX5_answerFor 61 = .ok (.ifCond .lt 49, 3) := by decide +kernel
theorem dX5_answerFor_64 : decode cX5_answerFor 64 = .ok (.iload 5, 2) := by decide +kernel
theorem dX5_answerFor_66 : decode cX5_answerFor 66 = .ok (.iload_n 1, 1) := by decide +kernel
theorem dX5_answerFor_67 : decode cX5_answerFor 67 = .ok (.if_icmp .eq 37, 3) := by decide +kernel
theorem dX5_answerFor_70 : decode cX5_answerFor 70 = .ok (.aload_n 0, 1) := by decide +kernel
theorem dX5_answerFor_71 : decode cX5_answerFor 71 = .ok (.iload_n 1, 1) := by decide +kernel
theorem dX5_answerFor_72 : decode cX5_answerFor 72 = .ok (.iconst 2, 1) := by decide +kernel
theorem dX5_answerFor_73 : decode cX5_answerFor 73 = .ok (.iload 5, 2) := by decide +kernel
theorem dX5_answerFor_75 : decode cX5_answerFor 75 = .ok (.iload_n 2, 1) := by decide +kernel
theorem dX5_answerFor_76 : decode cX5_answerFor 76 = .ok (.invokevirtual 123, 3) := by decide +kernel
theorem dX5_answerFor_79 : decode cX5_answerFor 79 = .ok (.aload_n 0, 1) := by decide +kernel
theorem dX5_answerFor_80 : decode cX5_answerFor 80 = .ok (.getfield 16, 3) := by decide +kernel
theorem dX5_answerFor_83 : decode cX5_answerFor 83 = .ok (.bipush 9, 2) := by decide +kernel
theorem dX5_answerFor_85 : decode cX5_answerFor 85 = .ok (.invokevirtual 103, 3) := by decide +kernel
theorem dX5_answerFor_88 : decode cX5_answerFor 88 = .ok (.istore 6, 2) := by decide +kernel
theorem dX5_answerFor_90 : decode cX5_answerFor 90 = .ok (.iload 6, 2) := by decide +kernel
theorem dX5_answerFor_92 : decode cX5_answerFor 92 = .ok (.iload 4, 2) := by decide +kernel
theorem dX5_answerFor_94 : decode cX5_answerFor 94 = .ok (.if_icmp .lt 10, 3) := by decide +kernel
theorem dX5_answerFor_97 : decode cX5_answerFor 97 = .ok (.iload 6, 2) := by decide +kernel
theorem dX5_answerFor_99 : decode cX5_answerFor 99 = .ok (.istore 4, 2) := by decide +kernel
theorem dX5_answerFor_101 : decode cX5_answerFor 101 = .ok (.iload 5, 2) := by decide +kernel
theorem dX5_answerFor_103 : decode cX5_answerFor 103 = .ok (.istore_n 3, 1) := by decide +kernel
theorem dX5_answerFor_104 : decode cX5_answerFor 104 = .ok (.iinc 5 (-1), 3) := by decide +kernel
theorem dX5_answerFor_107 : decode cX5_answerFor 107 = .ok (.goto (-48), 3) := by decide +kernel
theorem dX5_answerFor_110 : decode cX5_answerFor 110 = .ok (.iload_n 3, 1) := by decide +kernel
theorem dX5_answerFor_111 : decode cX5_answerFor 111 = .ok (.ireturn, 1) := by decide +kernel
theorem dX5_kindFor_0 : decode cX5_kindFor 0 = .ok (.aload_n 0, 1) := by decide +kernel
theorem dX5_kindFor_1 : decode cX5_kindFor 1 = .ok (.getfield 10, 3) := by decide +kernel
theorem dX5_kindFor_4 : decode cX5_kindFor 4 = .ok (.iload_n 1, 1) := by decide +kernel
theorem dX5_kindFor_5 : decode cX5_kindFor 5 = .ok (.invokevirtual 62, 3) := by decide +kernel
theorem dX5_kindFor_8 : decode cX5_kindFor 8 = .ok (.ifCond .eq 13, 3) := by decide +kernel
theorem dX5_kindFor_11 : decode cX5_kindFor 11 = .ok (.iload_n 2, 1) := by decide +kernel
theorem dX5_kindFor_12 : decode cX5_kindFor 12 = .ok (.iconst 0, 1) := by decide +kernel
theorem dX5_kindFor_13 : decode cX5_kindFor 13 = .ok (.bipush 120, 2) := by decide +kernel
theorem dX5_kindFor_15 : decode cX5_kindFor 15 = .ok (.invokestatic 46, 3) := by decide +kernel
theorem dX5_kindFor_18 : decode cX5_kindFor 18 = .ok (.ifCond .ne 9, 3) := by decide +kernel
theorem dX5_kindFor_21 : decode cX5_kindFor 21 = .ok (.aload_n 0, 1) := by decide +kernel
theorem dX5_kindFor_22 : decode cX5_kindFor 22 = .ok (.iconst 0, 1) := by decide +kernel
theorem dX5_kindFor_23 : decode cX5_kindFor 23 = .ok (.invokevirtual 50, 3) := by decide +kernel
theorem dX5_kindFor_26 : decode cX5_kindFor 26 = .ok (.ireturn, 1) := by decide +kernel
theorem dX5_kindFor_27 : decode cX5_kindFor 27 = .ok (.iconst 0, 1) := by decide +kernel
theorem dX5_kindFor_28 : decode cX5_kindFor 28 = .ok (.istore_n 3, 1) := by decide +kernel
theorem dX5_kindFor_29 : decode cX5_kindFor 29 = .ok (.iconst (-1), 1) := by decide +kernel
theorem dX5_kindFor_30 : decode cX5_kindFor 30 = .ok (.istore 4, 2) := by decide +kernel
theorem dX5_kindFor_32 : decode cX5_kindFor 32 = .ok (.iconst 0, 1) := by decide +kernel
theorem dX5_kindFor_33 : decode cX5_kindFor 33 = .ok (.istore 5, 2) := by decide +kernel
theorem dX5_kindFor_35 : decode cX5_kindFor 35 = .ok (.iload 5, 2) := by decide +kernel
theorem dX5_kindFor_37 : decode cX5_kindFor 37 = .ok (.bipush 6, 2) := by decide +kernel
theorem dX5_kindFor_39 : decode cX5_kindFor 39 = .ok (.if_icmp .gt 44, 3) := by decide +kernel
theorem dX5_kindFor_42 : decode cX5_kindFor 42 = .ok (.aload_n 0, 1) := by decide +kernel
theorem dX5_kindFor_43 : decode cX5_kindFor 43 = .ok (.iload_n 1, 1) := by decide +kernel
theorem dX5_kindFor_44 : decode cX5_kindFor 44 = .ok (.iconst 0, 1) := by decide +kernel
theorem dX5_kindFor_45 : decode cX5_kindFor 45 = .ok (.iload 5, 2) := by decide +kernel
theorem dX5_kindFor_47 : decode cX5_kindFor 47 = .ok (.iload_n 2, 1) := by decide +kernel
theorem dX5_kindFor_48 : decode cX5_kindFor 48 = .ok (.invokevirtual 123, 3) := by decide +kernel
theorem dX5_kindFor_51 : decode cX5_kindFor 51 = .ok (.aload_n 0, 1) := by decide +kernel
theorem dX5_kindFor_52 : decode cX5_kindFor 52 = .ok (.getfield 16, 3) := by decide +kernel
theorem dX5_kindFor_55 : decode cX5_kindFor 55 = .ok (.iload_n 1, 1) := by decide +kernel
theorem dX5_kindFor_56 : decode cX5_kindFor 56 = .ok (.bipush 9, 2) := by decide +kernel
theorem dX5_kindFor_58 : decode cX5_kindFor 58 = .ok (.invokevirtual 66, 3) := by decide +kernel
theorem dX5_kindFor_61 : decode cX5_kindFor 61 = .ok (.istore 6, 2) := by decide +kernel
theorem dX5_kindFor_63 : decode cX5_kindFor 63 = .ok (.iload 6, 2) := by decide +kernel
theorem dX5_kindFor_65 : decode cX5_kindFor 65 = .ok (.iload 4, 2) := by decide +kernel
theorem dX5_kindFor_67 : decode cX5_kindFor 67 = .ok (.if_icmp .le 10, 3) := by decide +kernel
theorem dX5_kindFor_70 : decode cX5_kindFor 70 = .ok (.iload 6, 2) := by decide +kernel
theorem dX5_kindFor_72 : decode cX5_kindFor 72 = .ok (.istore 4, 2) := by decide +kernel
theorem dX5_kindFor_74 : decode cX5_kindFor 74 = .ok (.iload 5, 2) := by decide +kernel
theorem dX5_kindFor_76 : decode cX5_kindFor 76 = .ok (.istore_n 3, 1) := by decide +kernel
theorem dX5_kindFor_77 : decode cX5_kindFor 77 = .ok (.iinc 5 1, 3) := by decide +kernel
theorem dX5_kindFor_80 : decode cX5_kindFor 80 = .ok (.goto (-45), 3) := by decide +kernel
theorem dX5_kindFor_83 : decode cX5_kindFor 83 = .ok (.iload_n 3, 1) := by decide +kernel
theorem dX5_kindFor_84 : decode cX5_kindFor 84 = .ok (.ireturn, 1) := by decide +kernel
theorem dX5_ageFor_0 : decode cX5_ageFor 0 = .ok (.aload_n 0, 1) := by decide +kernel
theorem dX5_ageFor_1 : decode cX5_ageFor 1 = .ok (.getfield 10, 3) := by decide +kernel
theorem dX5_ageFor_4 : decode cX5_ageFor 4 = .ok (.iload_n 1, 1) := by decide +kernel
theorem dX5_ageFor_5 : decode cX5_ageFor 5 = .ok (.invokevirtual 62, 3) := by decide +kernel
theorem dX5_ageFor_8 : decode cX5_ageFor 8 = .ok (.ifCond .eq 13, 3) := by decide +kernel
theorem dX5_ageFor_11 : decode cX5_ageFor 11 = .ok (.iload_n 2, 1) := by decide +kernel
theorem dX5_ageFor_12 : decode cX5_ageFor 12 = .ok (.iconst 0, 1) := by decide +kernel
theorem dX5_ageFor_13 : decode cX5_ageFor 13 = .ok (.bipush 99, 2) := by decide +kernel
theorem dX5_ageFor_15 : decode cX5_ageFor 15 = .ok (.invokestatic 46, 3) := by decide +kernel
theorem dX5_ageFor_18 : decode cX5_ageFor 18 = .ok (.ifCond .ne 9, 3) := by decide +kernel
theorem dX5_ageFor_21 : decode cX5_ageFor 21 = .ok (.aload_n 0, 1) := by decide +kernel
theorem dX5_ageFor_22 : decode cX5_ageFor 22 = .ok (.iconst 0, 1) := by decide +kernel
theorem dX5_ageFor_23 : decode cX5_ageFor 23 = .ok (.invokevirtual 50, 3) := by decide +kernel
theorem dX5_ageFor_26 : decode cX5_ageFor 26 = .ok (.ireturn, 1) := by decide +kernel
theorem dX5_ageFor_27 : decode cX5_ageFor 27 = .ok (.aload_n 0, 1) := by decide +kernel
theorem dX5_ageFor_28 : decode cX5_ageFor 28 = .ok (.getfield 16, 3) := by decide +kernel
theorem dX5_ageFor_31 : decode cX5_ageFor 31 = .ok (.aload_n 0, 1) := by decide +kernel
theorem dX5_ageFor_32 : decode cX5_ageFor 32 = .ok (.getfield 10, 3) := by decide +kernel
theorem dX5_ageFor_35 : decode cX5_ageFor 35 = .ok (.invokevirtual 115, 3) := by decide +kernel
theorem dX5_ageFor_38 : decode cX5_ageFor 38 = .ok (.bipush 120, 2) := by decide +kernel
theorem dX5_ageFor_40 : decode cX5_ageFor 40 = .ok (.istore_n 3, 1) := by decide +kernel
theorem dX5_ageFor_41 : decode cX5_ageFor 41 = .ok (.iload_n 3, 1) := by decide +kernel
theorem dX5_ageFor_42 : decode cX5_ageFor 42 = .ok (.ifCond .lt 35, 3) := by decide +kernel
theorem dX5_ageFor_45 : decode cX5_ageFor 45 = .ok (.aload_n 0, 1) := by decide +kernel
theorem dX5_ageFor_46 : decode cX5_ageFor 46 = .ok (.getfield 16, 3) := by decide +kernel
theorem dX5_ageFor_49 : decode cX5_ageFor 49 = .ok (.iload_n 1, 1) := by decide +kernel
theorem dX5_ageFor_50 : decode cX5_ageFor 50 = .ok (.iconst 4, 1) := by decide +kernel
theorem dX5_ageFor_51 : decode cX5_ageFor 51 = .ok (.iload_n 3, 1) := by decide +kernel
theorem dX5_ageFor_52 : decode cX5_ageFor 52 = .ok (.invokevirtual 72, 3) := by decide +kernel
theorem dX5_ageFor_55 : decode cX5_ageFor 55 = .ok (.aload_n 0, 1) := by decide +kernel
theorem dX5_ageFor_56 : decode cX5_ageFor 56 = .ok (.getfield 16, 3) := by decide +kernel
theorem dX5_ageFor_59 : decode cX5_ageFor 59 = .ok (.iload_n 1, 1) := by decide +kernel
theorem dX5_ageFor_60 : decode cX5_ageFor 60 = .ok (.bipush 10, 2) := by decide +kernel
theorem dX5_ageFor_62 : decode cX5_ageFor 62 = .ok (.invokevirtual 66, 3) := by decide +kernel
theorem dX5_ageFor_65 : decode cX5_ageFor 65 = .ok (.iload_n 2, 1) := by decide +kernel
theorem dX5_ageFor_66 : decode cX5_ageFor 66 = .ok (.if_icmp .gt 5, 3) := by decide +kernel
theorem dX5_ageFor_69 : decode cX5_ageFor 69 = .ok (.iload_n 3, 1) := by decide +kernel
theorem dX5_ageFor_70 : decode cX5_ageFor 70 = .ok (.ireturn, 1) := by decide +kernel
theorem dX5_ageFor_71 : decode cX5_ageFor 71 = .ok (.iinc 3 (-1), 3) := by decide +kernel
theorem dX5_ageFor_74 : decode cX5_ageFor 74 = .ok (.goto (-33), 3) := by decide +kernel
theorem dX5_ageFor_77 : decode cX5_ageFor 77 = .ok (.aload_n 0, 1) := by decide +kernel
theorem dX5_ageFor_78 : decode cX5_ageFor 78 = .ok (.iconst 3, 1) := by decide +kernel
theorem dX5_ageFor_79 : decode cX5_ageFor 79 = .ok (.invokevirtual 50, 3) := by decide +kernel
theorem dX5_ageFor_82 : decode cX5_ageFor 82 = .ok (.ireturn, 1) := by decide +kernel
theorem dX5_hush_0 : decode cX5_hush 0 = .ok (.iload_n 1, 1) := by decide +kernel
theorem dX5_hush_1 : decode cX5_hush 1 = .ok (.iconst 0, 1) := by decide +kernel
theorem dX5_hush_2 : decode cX5_hush 2 = .ok (.bipush 60, 2) := by decide +kernel
theorem dX5_hush_4 : decode cX5_hush 4 = .ok (.invokestatic 46, 3) := by decide +kernel
theorem dX5_hush_7 : decode cX5_hush 7 = .ok (.ifCond .ne 9, 3) := by decide +kernel
theorem dX5_hush_10 : decode cX5_hush 10 = .ok (.aload_n 0, 1) := by decide +kernel
theorem dX5_hush_11 : decode cX5_hush 11 = .ok (.iconst 0, 1) := by decide +kernel
theorem dX5_hush_12 : decode cX5_hush 12 = .ok (.invokevirtual 50, 3) := by decide +kernel
theorem dX5_hush_15 : decode cX5_hush 15 = .ok (.ireturn, 1) := by decide +kernel
theorem dX5_hush_16 : decode cX5_hush 16 = .ok (.iconst (-1), 1) := by decide +kernel
theorem dX5_hush_17 : decode cX5_hush 17 = .ok (.istore_n 2, 1) := by decide +kernel
theorem dX5_hush_18 : decode cX5_hush 18 = .ok (.bipush 9, 2) := by decide +kernel
theorem dX5_hush_20 : decode cX5_hush 20 = .ok (.istore_n 3, 1) := by decide +kernel
theorem dX5_hush_21 : decode cX5_hush 21 = .ok (.iconst 0, 1) := by decide +kernel
theorem dX5_hush_22 : decode cX5_hush 22 = .ok (.istore 4, 2) := by decide +kernel
theorem dX5_hush_24 : decode cX5_hush 24 = .ok (.iload 4, 2) := by decide +kernel
theorem dX5_hush_26 : decode cX5_hush 26 = .ok (.iconst 1, 1) := by decide +kernel
theorem dX5_hush_27 : decode cX5_hush 27 = .ok (.aload_n 0, 1) := by decide +kernel
theorem dX5_hush_28 : decode cX5_hush 28 = .ok (.getfield 10, 3) := by decide +kernel
theorem dX5_hush_31 : decode cX5_hush 31 = .ok (.getfield 127, 3) := by decide +kernel
theorem dX5_hush_34 : decode cX5_hush 34 = .ok (.ishl, 1) := by decide +kernel
theorem dX5_hush_35 : decode cX5_hush 35 = .ok (.if_icmp .ge 38, 3) := by decide +kernel
theorem dX5_hush_38 : decode cX5_hush 38 = .ok (.iload 4, 2) := by decide +kernel
theorem dX5_hush_40 : decode cX5_hush 40 = .ok (.invokestatic 130, 3) := by decide +kernel
theorem dX5_hush_43 : decode cX5_hush 43 = .ok (.istore 5, 2) := by decide +kernel
theorem dX5_hush_45 : decode cX5_hush 45 = .ok (.iload 5, 2) := by decide +kernel
theorem dX5_hush_47 : decode cX5_hush 47 = .ok (.iload_n 3, 1) := by decide +kernel
theorem dX5_hush_48 : decode cX5_hush 48 = .ok (.if_icmp .ge 19, 3) := by decide +kernel
theorem dX5_hush_51 : decode cX5_hush 51 = .ok (.aload_n 0, 1) := by decide +kernel
theorem dX5_hush_52 : decode cX5_hush 52 = .ok (.iload 4, 2) := by decide +kernel
theorem dX5_hush_54 : decode cX5_hush 54 = .ok (.iload_n 1, 1) := by decide +kernel
theorem dX5_hush_55 : decode cX5_hush 55 = .ok (.invokevirtual 135, 3) := by decide +kernel
theorem dX5_hush_58 : decode cX5_hush 58 = .ok (.ifCond .eq 9, 3) := by decide +kernel
theorem dX5_hush_61 : decode cX5_hush 61 = .ok (.iload 5, 2) := by decide +kernel
theorem dX5_hush_63 : decode cX5_hush 63 = .ok (.istore_n 3, 1) := by decide +kernel
theorem dX5_hush_64 : decode cX5_hush 64 = .ok (.iload 4, 2) := by decide +kernel
theorem dX5_hush_66 : decode cX5_hush 66 = .ok (.istore_n 2, 1) := by decide +kernel
theorem dX5_hush_67 : decode cX5_hush 67 = .ok (.iinc 4 1, 3) := by decide +kernel
theorem dX5_hush_70 : decode cX5_hush 70 = .ok (.goto (-46), 3) := by decide +kernel
theorem dX5_hush_73 : decode cX5_hush 73 = .ok (.iload_n 2, 1) := by decide +kernel
theorem dX5_hush_74 : decode cX5_hush 74 = .ok (.ifCond .ge 11, 3) := by decide +kernel
theorem dX5_hush_77 : decode cX5_hush 77 = .ok (.aload_n 0, 1) := by decide +kernel
theorem dX5_hush_78 : decode cX5_hush 78 = .ok (.iconst 3, 1) := by decide +kernel
theorem dX5_hush_79 : decode cX5_hush 79 = .ok (.invokevirtual 50, 3) := by decide +kernel
theorem dX5_hush_82 : decode cX5_hush 82 = .ok (.goto 4, 3) := by decide +kernel
theorem dX5_hush_85 : decode cX5_hush 85 = .ok (.iload_n 2, 1) := by decide +kernel
theorem dX5_hush_86 : decode cX5_hush 86 = .ok (.ireturn, 1) := by decide +kernel
theorem dX5_longest_0 : decode cX5_longest 0 = .ok (.iload_n 1, 1) := by decide +kernel
theorem dX5_longest_1 : decode cX5_longest 1 = .ok (.iconst 0, 1) := by decide +kernel
theorem dX5_longest_2 : decode cX5_longest 2 = .ok (.sipush 200, 3) := by decide +kernel
theorem dX5_longest_5 : decode cX5_longest 5 = .ok (.invokestatic 46, 3) := by decide +kernel
theorem dX5_longest_8 : decode cX5_longest 8 = .ok (.ifCond .ne 9, 3) := by decide +kernel
theorem dX5_longest_11 : decode cX5_longest 11 = .ok (.aload_n 0, 1) := by decide +kernel
theorem dX5_longest_12 : decode cX5_longest 12 = .ok (.iconst 0, 1) := by decide +kernel
theorem dX5_longest_13 : decode cX5_longest 13 = .ok (.invokevirtual 50, 3) := by decide +kernel
theorem dX5_longest_16 : decode cX5_longest 16 = .ok (.ireturn, 1) := by decide +kernel
theorem dX5_longest_17 : decode cX5_longest 17 = .ok (.aload_n 0, 1) := by decide +kernel
theorem dX5_longest_18 : decode cX5_longest 18 = .ok (.getfield 16, 3) := by decide +kernel
theorem dX5_longest_21 : decode cX5_longest 21 = .ok (.aload_n 0, 1) := by decide +kernel
theorem dX5_longest_22 : decode cX5_longest 22 = .ok (.getfield 10, 3) := by decide +kernel
theorem dX5_longest_25 : decode cX5_longest 25 = .ok (.invokevirtual 115, 3) := by decide +kernel
theorem dX5_longest_28 : decode cX5_longest 28 = .ok (.aload_n 0, 1) := by decide +kernel
theorem dX5_longest_29 : decode cX5_longest 29 = .ok (.getfield 16, 3) := by decide +kernel
theorem dX5_longest_32 : decode cX5_longest 32 = .ok (.getfield 100, 3) := by decide +kernel
theorem dX5_longest_35 : decode cX5_longest 35 = .ok (.istore_n 2, 1) := by decide +kernel
theorem dX5_longest_36 : decode cX5_longest 36 = .ok (.iconst 0, 1) := by decide +kernel
theorem dX5_longest_37 : decode cX5_longest 37 = .ok (.istore_n 3, 1) := by decide +kernel
theorem dX5_longest_38 : decode cX5_longest 38 = .ok (.iload_n 3, 1) := by decide +kernel
theorem dX5_longest_39 : decode cX5_longest 39 = .ok (.iload_n 1, 1) := by decide +kernel
theorem dX5_longest_40 : decode cX5_longest 40 = .ok (.if_icmp .ge 29, 3) := by decide +kernel
theorem dX5_longest_43 : decode cX5_longest 43 = .ok (.aload_n 0, 1) := by decide +kernel
theorem dX5_longest_44 : decode cX5_longest 44 = .ok (.getfield 16, 3) := by decide +kernel
theorem dX5_longest_47 : decode cX5_longest 47 = .ok (.iconst 1, 1) := by decide +kernel
theorem dX5_longest_48 : decode cX5_longest 48 = .ok (.invokevirtual 86, 3) := by decide +kernel
theorem dX5_longest_51 : decode cX5_longest 51 = .ok (.iload_n 2, 1) := by decide +kernel
theorem dX5_longest_52 : decode cX5_longest 52 = .ok (.aload_n 0, 1) := by decide +kernel
theorem dX5_longest_53 : decode cX5_longest 53 = .ok (.getfield 16, 3) := by decide +kernel
theorem dX5_longest_56 : decode cX5_longest 56 = .ok (.getfield 100, 3) := by decide +kernel
theorem dX5_longest_59 : decode cX5_longest 59 = .ok (.invokestatic 139, 3) := by decide +kernel
theorem dX5_longest_62 : decode cX5_longest 62 = .ok (.istore_n 2, 1) := by decide +kernel
theorem dX5_longest_63 : decode cX5_longest 63 = .ok (.iinc 3 1, 3) := by decide +kernel
theorem dX5_longest_66 : decode cX5_longest 66 = .ok (.goto (-28), 3) := by decide +kernel
theorem dX5_longest_69 : decode cX5_longest 69 = .ok (.iload_n 2, 1) := by decide +kernel
theorem dX5_longest_70 : decode cX5_longest 70 = .ok (.ireturn, 1) := by decide +kernel
theorem dX5_fits_0 : decode cX5_fits 0 = .ok (.aload_n 0, 1) := by decide +kernel
theorem dX5_fits_1 : decode cX5_fits 1 = .ok (.iload_n 1, 1) := by decide +kernel
theorem dX5_fits_2 : decode cX5_fits 2 = .ok (.iload_n 2, 1) := by decide +kernel
theorem dX5_fits_3 : decode cX5_fits 3 = .ok (.invokevirtual 144, 3) := by decide +kernel
theorem dX5_fits_6 : decode cX5_fits 6 = .ok (.istore_n 3, 1) := by decide +kernel
theorem dX5_fits_7 : decode cX5_fits 7 = .ok (.iload_n 3, 1) := by decide +kernel
theorem dX5_fits_8 : decode cX5_fits 8 = .ok (.iconst (-1), 1) := by decide +kernel
theorem dX5_fits_9 : decode cX5_fits 9 = .ok (.if_icmp .eq 9, 3) := by decide +kernel
theorem dX5_fits_12 : decode cX5_fits 12 = .ok (.aload_n 0, 1) := by decide +kernel
theorem dX5_fits_13 : decode cX5_fits 13 = .ok (.iload_n 3, 1) := by decide +kernel
theorem dX5_fits_14 : decode cX5_fits 14 = .ok (.invokevirtual 50, 3) := by decide +kernel
theorem dX5_fits_17 : decode cX5_fits 17 = .ok (.ireturn, 1) := by decide +kernel
theorem dX5_fits_18 : decode cX5_fits 18 = .ok (.iconst 0, 1) := by decide +kernel
theorem dX5_fits_19 : decode cX5_fits 19 = .ok (.istore 4, 2) := by decide +kernel
theorem dX5_fits_21 : decode cX5_fits 21 = .ok (.iconst 0, 1) := by decide +kernel
theorem dX5_fits_22 : decode cX5_fits 22 = .ok (.istore 5, 2) := by decide +kernel
theorem dX5_fits_24 : decode cX5_fits 24 = .ok (.iload 5, 2) := by decide +kernel
theorem dX5_fits_26 : decode cX5_fits 26 = .ok (.bipush 60, 2) := by decide +kernel
theorem dX5_fits_28 : decode cX5_fits 28 = .ok (.if_icmp .ge 29, 3) := by decide +kernel
theorem dX5_fits_31 : decode cX5_fits 31 = .ok (.aload_n 0, 1) := by decide +kernel
theorem dX5_fits_32 : decode cX5_fits 32 = .ok (.aload_n 0, 1) := by decide +kernel
theorem dX5_fits_33 : decode cX5_fits 33 = .ok (.getfield 31, 3) := by decide +kernel
theorem dX5_fits_36 : decode cX5_fits 36 = .ok (.iload_n 1, 1) := by decide +kernel
theorem dX5_fits_37 : decode cX5_fits 37 = .ok (.aaload, 1) := by decide +kernel
theorem dX5_fits_38 : decode cX5_fits 38 = .ok (.iload_n 2, 1) := by decide +kernel
theorem dX5_fits_39 : decode cX5_fits 39 = .ok (.iconst 1, 1) := by decide +kernel
theorem dX5_fits_40 : decode cX5_fits 40 = .ok (.iload 5, 2) := by decide +kernel
theorem dX5_fits_42 : decode cX5_fits 42 = .ok (.invokevirtual 147, 3) := by decide +kernel
theorem dX5_fits_45 : decode cX5_fits 45 = .ok (.ifCond .eq 6, 3) := by decide +kernel
theorem dX5_fits_48 : decode cX5_fits 48 = .ok (.iinc 4 1, 3) := by decide +kernel
theorem dX5_fits_51 : decode cX5_fits 51 = .ok (.iinc 5 1, 3) := by decide +kernel
theorem dX5_fits_54 : decode cX5_fits 54 = .ok (.goto (-30), 3) := by decide +kernel
theorem dX5_fits_57 : decode cX5_fits 57 = .ok (.iload 4, 2) := by decide +kernel
theorem dX5_fits_59 : decode cX5_fits 59 = .ok (.ireturn, 1) := by decide +kernel
theorem dX5_date_0 : decode cX5_date 0 = .ok (.aload_n 0, 1) := by decide +kernel
theorem dX5_date_1 : decode cX5_date 1 = .ok (.iload_n 1, 1) := by decide +kernel
theorem dX5_date_2 : decode cX5_date 2 = .ok (.iload_n 2, 1) := by decide +kernel
theorem dX5_date_3 : decode cX5_date 3 = .ok (.invokevirtual 144, 3) := by decide +kernel
theorem dX5_date_6 : decode cX5_date 6 = .ok (.istore_n 3, 1) := by decide +kernel
theorem dX5_date_7 : decode cX5_date 7 = .ok (.iload_n 3, 1) := by decide +kernel
theorem dX5_date_8 : decode cX5_date 8 = .ok (.iconst (-1), 1) := by decide +kernel
theorem dX5_date_9 : decode cX5_date 9 = .ok (.if_icmp .eq 9, 3) := by decide +kernel
theorem dX5_date_12 : decode cX5_date 12 = .ok (.aload_n 0, 1) := by decide +kernel
theorem dX5_date_13 : decode cX5_date 13 = .ok (.iload_n 3, 1) := by decide +kernel
theorem dX5_date_14 : decode cX5_date 14 = .ok (.invokevirtual 50, 3) := by decide +kernel
theorem dX5_date_17 : decode cX5_date 17 = .ok (.ireturn, 1) := by decide +kernel
theorem dX5_date_18 : decode cX5_date 18 = .ok (.iconst 0, 1) := by decide +kernel
theorem dX5_date_19 : decode cX5_date 19 = .ok (.istore 4, 2) := by decide +kernel
theorem dX5_date_21 : decode cX5_date 21 = .ok (.iload 4, 2) := by decide +kernel
theorem dX5_date_23 : decode cX5_date 23 = .ok (.bipush 60, 2) := by decide +kernel
theorem dX5_date_25 : decode cX5_date 25 = .ok (.if_icmp .ge 29, 3) := by decide +kernel
theorem dX5_date_28 : decode cX5_date 28 = .ok (.aload_n 0, 1) := by decide +kernel
theorem dX5_date_29 : decode cX5_date 29 = .ok (.aload_n 0, 1) := by decide +kernel
theorem dX5_date_30 : decode cX5_date 30 = .ok (.getfield 31, 3) := by decide +kernel
theorem dX5_date_33 : decode cX5_date 33 = .ok (.iload_n 1, 1) := by decide +kernel
theorem dX5_date_34 : decode cX5_date 34 = .ok (.aaload, 1) := by decide +kernel
theorem dX5_date_35 : decode cX5_date 35 = .ok (.iload_n 2, 1) := by decide +kernel
theorem dX5_date_36 : decode cX5_date 36 = .ok (.iconst 1, 1) := by decide +kernel
theorem dX5_date_37 : decode cX5_date 37 = .ok (.iload 4, 2) := by decide +kernel
theorem dX5_date_39 : decode cX5_date 39 = .ok (.invokevirtual 147, 3) := by decide +kernel
theorem dX5_date_42 : decode cX5_date 42 = .ok (.ifCond .eq 6, 3) := by decide +kernel
theorem dX5_date_45 : decode cX5_date 45 = .ok (.iload 4, 2) := by decide +kernel
theorem dX5_date_47 : decode cX5_date 47 = .ok (.ireturn, 1) := by decide +kernel
theorem dX5_date_48 : decode cX5_date 48 = .ok (.iinc 4 1, 3) := by decide +kernel
theorem dX5_date_51 : decode cX5_date 51 = .ok (.goto (-30), 3) := by decide +kernel
theorem dX5_date_54 : decode cX5_date 54 = .ok (.aload_n 0, 1) := by decide +kernel
theorem dX5_date_55 : decode cX5_date 55 = .ok (.iconst 3, 1) := by decide +kernel
theorem dX5_date_56 : decode cX5_date 56 = .ok (.invokevirtual 50, 3) := by decide +kernel
theorem dX5_date_59 : decode cX5_date 59 = .ok (.ireturn, 1) := by decide +kernel
theorem dX5_kinds_0 : decode cX5_kinds 0 = .ok (.aload_n 0, 1) := by decide +kernel
theorem dX5_kinds_1 : decode cX5_kinds 1 = .ok (.iload_n 1, 1) := by decide +kernel
theorem dX5_kinds_2 : decode cX5_kinds 2 = .ok (.iload_n 2, 1) := by decide +kernel
theorem dX5_kinds_3 : decode cX5_kinds 3 = .ok (.invokevirtual 144, 3) := by decide +kernel
theorem dX5_kinds_6 : decode cX5_kinds 6 = .ok (.istore_n 3, 1) := by decide +kernel
theorem dX5_kinds_7 : decode cX5_kinds 7 = .ok (.iload_n 3, 1) := by decide +kernel
theorem dX5_kinds_8 : decode cX5_kinds 8 = .ok (.iconst (-1), 1) := by decide +kernel
theorem dX5_kinds_9 : decode cX5_kinds 9 = .ok (.if_icmp .eq 9, 3) := by decide +kernel
theorem dX5_kinds_12 : decode cX5_kinds 12 = .ok (.aload_n 0, 1) := by decide +kernel
theorem dX5_kinds_13 : decode cX5_kinds 13 = .ok (.iload_n 3, 1) := by decide +kernel
theorem dX5_kinds_14 : decode cX5_kinds 14 = .ok (.invokevirtual 50, 3) := by decide +kernel
theorem dX5_kinds_17 : decode cX5_kinds 17 = .ok (.ireturn, 1) := by decide +kernel
theorem dX5_kinds_18 : decode cX5_kinds 18 = .ok (.iconst 0, 1) := by decide +kernel
theorem dX5_kinds_19 : decode cX5_kinds 19 = .ok (.istore 4, 2) := by decide +kernel
theorem dX5_kinds_21 : decode cX5_kinds 21 = .ok (.iconst 0, 1) := by decide +kernel
theorem dX5_kinds_22 : decode cX5_kinds 22 = .ok (.istore 5, 2) := by decide +kernel
theorem dX5_kinds_24 : decode cX5_kinds 24 = .ok (.iload 5, 2) := by decide +kernel
theorem dX5_kinds_26 : decode cX5_kinds 26 = .ok (.bipush 6, 2) := by decide +kernel
theorem dX5_kinds_28 : decode cX5_kinds 28 = .ok (.if_icmp .gt 35, 3) := by decide +kernel
theorem dX5_kinds_31 : decode cX5_kinds 31 = .ok (.aload_n 0, 1) := by decide +kernel
theorem dX5_kinds_32 : decode cX5_kinds 32 = .ok (.aload_n 0, 1) := by decide +kernel
theorem dX5_kinds_33 : decode cX5_kinds 33 = .ok (.getfield 31, 3) := by decide +kernel
theorem dX5_kinds_36 : decode cX5_kinds 36 = .ok (.iload_n 1, 1) := by decide +kernel
theorem dX5_kinds_37 : decode cX5_kinds 37 = .ok (.aaload, 1) := by decide +kernel
theorem dX5_kinds_38 : decode cX5_kinds 38 = .ok (.iload_n 2, 1) := by decide +kernel
theorem dX5_kinds_39 : decode cX5_kinds 39 = .ok (.iconst 0, 1) := by decide +kernel
theorem dX5_kinds_40 : decode cX5_kinds 40 = .ok (.iload 5, 2) := by decide +kernel
theorem dX5_kinds_42 : decode cX5_kinds 42 = .ok (.invokevirtual 147, 3) := by decide +kernel
theorem dX5_kinds_45 : decode cX5_kinds 45 = .ok (.ifCond .eq 12, 3) := by decide +kernel
theorem dX5_kinds_48 : decode cX5_kinds 48 = .ok (.iload 4, 2) := by decide +kernel
theorem dX5_kinds_50 : decode cX5_kinds 50 = .ok (.iconst 1, 1) := by decide +kernel
theorem dX5_kinds_51 : decode cX5_kinds 51 = .ok (.iload 5, 2) := by decide +kernel
theorem dX5_kinds_53 : decode cX5_kinds 53 = .ok (.ishl, 1) := by decide +kernel
theorem dX5_kinds_54 : decode cX5_kinds 54 = .ok (.ior, 1) := by decide +kernel
theorem dX5_kinds_55 : decode cX5_kinds 55 = .ok (.istore 4, 2) := by decide +kernel
theorem dX5_kinds_57 : decode cX5_kinds 57 = .ok (.iinc 5 1, 3) := by decide +kernel
theorem dX5_kinds_60 : decode cX5_kinds 60 = .ok (.goto (-36), 3) := by decide +kernel
theorem dX5_kinds_63 : decode cX5_kinds 63 = .ok (.iload 4, 2) := by decide +kernel
theorem dX5_kinds_65 : decode cX5_kinds 65 = .ok (.ireturn, 1) := by decide +kernel
theorem dX5_spring_0 : decode cX5_spring 0 = .ok (.iload_n 1, 1) := by decide +kernel
theorem dX5_spring_1 : decode cX5_spring 1 = .ok (.iconst 1, 1) := by decide +kernel
theorem dX5_spring_2 : decode cX5_spring 2 = .ok (.bipush 20, 2) := by decide +kernel
theorem dX5_spring_4 : decode cX5_spring 4 = .ok (.invokestatic 46, 3) := by decide +kernel
theorem dX5_spring_7 : decode cX5_spring 7 = .ok (.ifCond .ne 9, 3) := by decide +kernel
theorem dX5_spring_10 : decode cX5_spring 10 = .ok (.aload_n 0, 1) := by decide +kernel
theorem dX5_spring_11 : decode cX5_spring 11 = .ok (.iconst 0, 1) := by decide +kernel
theorem dX5_spring_12 : decode cX5_spring 12 = .ok (.invokevirtual 50, 3) := by decide +kernel
theorem dX5_spring_15 : decode cX5_spring 15 = .ok (.ireturn, 1) := by decide +kernel
theorem dX5_spring_16 : decode cX5_spring 16 = .ok (.aload_n 0, 1) := by decide +kernel
theorem dX5_spring_17 : decode cX5_spring 17 = .ok (.getfield 10, 3) := by decide +kernel
theorem dX5_spring_20 : decode cX5_spring 20 = .ok (.iload_n 1, 1) := by decide +kernel
theorem dX5_spring_21 : decode cX5_spring 21 = .ok (.invokevirtual 83, 3) := by decide +kernel
theorem dX5_spring_24 : decode cX5_spring 24 = .ok (.ifCond .ne 9, 3) := by decide +kernel
theorem dX5_spring_27 : decode cX5_spring 27 = .ok (.aload_n 0, 1) := by decide +kernel
theorem dX5_spring_28 : decode cX5_spring 28 = .ok (.iconst 4, 1) := by decide +kernel
theorem dX5_spring_29 : decode cX5_spring 29 = .ok (.invokevirtual 50, 3) := by decide +kernel
theorem dX5_spring_32 : decode cX5_spring 32 = .ok (.ireturn, 1) := by decide +kernel
theorem dX5_spring_33 : decode cX5_spring 33 = .ok (.iconst 0, 1) := by decide +kernel
theorem dX5_spring_34 : decode cX5_spring 34 = .ok (.istore_n 2, 1) := by decide +kernel
theorem dX5_spring_35 : decode cX5_spring 35 = .ok (.iload_n 2, 1) := by decide +kernel
theorem dX5_spring_36 : decode cX5_spring 36 = .ok (.iload_n 1, 1) := by decide +kernel
theorem dX5_spring_37 : decode cX5_spring 37 = .ok (.if_icmp .ge 85, 3) := by decide +kernel
theorem dX5_spring_40 : decode cX5_spring 40 = .ok (.aload_n 0, 1) := by decide +kernel
theorem dX5_spring_41 : decode cX5_spring 41 = .ok (.getfield 10, 3) := by decide +kernel
theorem dX5_spring_44 : decode cX5_spring 44 = .ok (.invokevirtual 151, 3) := by decide +kernel
theorem dX5_spring_47 : decode cX5_spring 47 = .ok (.bipush 8, 2) := by decide +kernel
theorem dX5_spring_49 : decode cX5_spring 49 = .ok (.irem, 1) := by decide +kernel
theorem dX5_spring_50 : decode cX5_spring 50 = .ok (.istore_n 3, 1) := by decide +kernel
theorem dX5_spring_51 : decode cX5_spring 51 = .ok (.iconst 1, 1) := by decide +kernel
theorem dX5_spring_52 : decode cX5_spring 52 = .ok (.aload_n 0, 1) := by decide +kernel
theorem dX5_spring_53 : decode cX5_spring 53 = .ok (.getfield 10, 3) := by decide +kernel
theorem dX5_spring_56 : decode cX5_spring 56 = .ok (.invokevirtual 151, 3) := by decide +kernel
theorem dX5_spring_59 : decode cX5_spring 59 = .ok (.bipush 9, 2) := by decide +kernel
theorem dX5_spring_61 : decode cX5_spring 61 = .ok (.irem, 1) := by decide +kernel
theorem dX5_spring_62 : decode cX5_spring 62 = .ok (.iadd, 1) := by decide +kernel
theorem dX5_spring_63 : decode cX5_spring 63 = .ok (.istore 4, 2) := by decide +kernel
theorem dX5_spring_65 : decode cX5_spring 65 = .ok (.aload_n 0, 1) := by decide +kernel
theorem dX5_spring_66 : decode cX5_spring 66 = .ok (.getfield 10, 3) := by decide +kernel
theorem dX5_spring_69 : decode cX5_spring 69 = .ok (.iload_n 3, 1) := by decide +kernel
theorem dX5_spring_70 : decode cX5_spring 70 = .ok (.invokevirtual 62, 3) := by decide +kernel
theorem dX5_spring_73 : decode cX5_spring 73 = .ok (.ifCond .eq 35, 3) := by decide +kernel
theorem dX5_spring_76 : decode cX5_spring 76 = .ok (.aload_n 0, 1) := by decide +kernel
theorem dX5_spring_77 : decode cX5_spring 77 = .ok (.getfield 10, 3) := by decide +kernel
theorem dX5_spring_80 : decode cX5_spring 80 = .ok (.iload_n 3, 1) := by decide +kernel
theorem dX5_spring_81 : decode cX5_spring 81 = .ok (.bipush 6, 2) := by decide +kernel
theorem dX5_spring_83 : decode cX5_spring 83 = .ok (.invokevirtual 66, 3) := by decide +kernel
theorem dX5_spring_86 : decode cX5_spring 86 = .ok (.ifCond .ne 22, 3) := by decide +kernel
theorem dX5_spring_89 : decode cX5_spring 89 = .ok (.aload_n 0, 1) := by decide +kernel
theorem dX5_spring_90 : decode cX5_spring 90 = .ok (.getfield 10, 3) := by decide +kernel
theorem dX5_spring_93 : decode cX5_spring 93 = .ok (.iload_n 3, 1) := by decide +kernel
theorem dX5_spring_94 : decode cX5_spring 94 = .ok (.iconst 5, 1) := by decide +kernel
theorem dX5_spring_95 : decode cX5_spring 95 = .ok (.iload 4, 2) := by decide +kernel
theorem dX5_spring_97 : decode cX5_spring 97 = .ok (.invokevirtual 72, 3) := by decide +kernel
theorem dX5_spring_100 : decode cX5_spring 100 = .ok (.aload_n 0, 1) := by decide +kernel
theorem dX5_spring_101 : decode cX5_spring 101 = .ok (.getfield 10, 3) := by decide +kernel
theorem dX5_spring_104 : decode cX5_spring 104 = .ok (.iload_n 3, 1) := by decide +kernel
theorem dX5_spring_105 : decode cX5_spring 105 = .ok (.invokevirtual 79, 3) := by decide +kernel
theorem dX5_spring_108 : decode cX5_spring 108 = .ok (.aload_n 0, 1) := by decide +kernel
theorem dX5_spring_109 : decode cX5_spring 109 = .ok (.getfield 10, 3) := by decide +kernel
theorem dX5_spring_112 : decode cX5_spring 112 = .ok (.iconst 1, 1) := by decide +kernel
theorem dX5_spring_113 : decode cX5_spring 113 = .ok (.invokevirtual 86, 3) := by decide +kernel
theorem dX5_spring_116 : decode cX5_spring 116 = .ok (.iinc 2 1, 3) := by decide +kernel
theorem dX5_spring_119 : decode cX5_spring 119 = .ok (.goto (-84), 3) := by decide +kernel
theorem dX5_spring_122 : decode cX5_spring 122 = .ok (.aload_n 0, 1) := by decide +kernel
theorem dX5_spring_123 : decode cX5_spring 123 = .ok (.getfield 10, 3) := by decide +kernel
theorem dX5_spring_126 : decode cX5_spring 126 = .ok (.invokevirtual 89, 3) := by decide +kernel
theorem dX5_spring_129 : decode cX5_spring 129 = .ok (.ireturn, 1) := by decide +kernel
theorem dX5_odds_0 : decode cX5_odds 0 = .ok (.iload_n 1, 1) := by decide +kernel
theorem dX5_odds_1 : decode cX5_odds 1 = .ok (.iconst 0, 1) := by decide +kernel
theorem dX5_odds_2 : decode cX5_odds 2 = .ok (.bipush 10, 2) := by decide +kernel
theorem dX5_odds_4 : decode cX5_odds 4 = .ok (.invokestatic 46, 3) := by decide +kernel
theorem dX5_odds_7 : decode cX5_odds 7 = .ok (.ifCond .eq 12, 3) := by decide +kernel
theorem dX5_odds_10 : decode cX5_odds 10 = .ok (.iload_n 2, 1) := by decide +kernel
theorem dX5_odds_11 : decode cX5_odds 11 = .ok (.iconst 0, 1) := by decide +kernel
theorem dX5_odds_12 : decode cX5_odds 12 = .ok (.iconst 1, 1) := by decide +kernel
theorem dX5_odds_13 : decode cX5_odds 13 = .ok (.invokestatic 46, 3) := by decide +kernel
theorem dX5_odds_16 : decode cX5_odds 16 = .ok (.ifCond .ne 10, 3) := by decide +kernel
theorem dX5_odds_19 : decode cX5_odds 19 = .ok (.aload_n 0, 1) := by decide +kernel
theorem dX5_odds_20 : decode cX5_odds 20 = .ok (.iconst 0, 1) := by decide +kernel
theorem dX5_odds_21 : decode cX5_odds 21 = .ok (.invokevirtual 50, 3) := by decide +kernel
theorem dX5_odds_24 : decode cX5_odds 24 = .ok (.i2l, 1) := by decide +kernel
theorem dX5_odds_25 : decode cX5_odds 25 = .ok (.lreturn, 1) := by decide +kernel
theorem dX5_odds_26 : decode cX5_odds 26 = .ok (.aload_n 0, 1) := by decide +kernel
theorem dX5_odds_27 : decode cX5_odds 27 = .ok (.getfield 10, 3) := by decide +kernel
theorem dX5_odds_30 : decode cX5_odds 30 = .ok (.invokevirtual 154, 3) := by decide +kernel
theorem dX5_odds_33 : decode cX5_odds 33 = .ok (.istore_n 3, 1) := by decide +kernel
theorem dX5_odds_34 : decode cX5_odds 34 = .ok (.iload_n 3, 1) := by decide +kernel
theorem dX5_odds_35 : decode cX5_odds 35 = .ok (.invokestatic 157, 3) := by decide +kernel
theorem dX5_odds_38 : decode cX5_odds 38 = .ok (.istore 4, 2) := by decide +kernel
theorem dX5_odds_40 : decode cX5_odds 40 = .ok (.iload_n 2, 1) := by decide +kernel
theorem dX5_odds_41 : decode cX5_odds 41 = .ok (.ifCond .ne 7, 3) := by decide +kernel
theorem dX5_odds_44 : decode cX5_odds 44 = .ok (.iload_n 3, 1) := by decide +kernel
theorem dX5_odds_45 : decode cX5_odds 45 = .ok (.goto 5, 3) := by decide +kernel
theorem dX5_odds_48 : decode cX5_odds 48 = .ok (.bipush 60, 2) := by decide +kernel
theorem dX5_odds_50 : decode cX5_odds 50 = .ok (.istore 5, 2) := by decide +kernel
theorem dX5_odds_52 : decode cX5_odds 52 = .ok (.lconst 1, 1) := by decide +kernel
theorem dX5_odds_53 : decode cX5_odds 53 = .ok (.lstore 6, 2) := by decide +kernel
theorem dX5_odds_55 : decode cX5_odds 55 = .ok (.iconst 0, 1) := by decide +kernel
theorem dX5_odds_56 : decode cX5_odds 56 = .ok (.istore 8, 2) := by decide +kernel
theorem dX5_odds_58 : decode cX5_odds 58 = .ok (.iload 8, 2) := by decide +kernel
theorem dX5_odds_60 : decode cX5_odds 60 = .ok (.iload_n 1, 1) := by decide +kernel
theorem dX5_odds_61 : decode cX5_odds 61 = .ok (.if_icmp .ge 20, 3) := by decide +kernel
theorem dX5_odds_64 : decode cX5_odds 64 = .ok (.lload 6, 2) := by decide +kernel
theorem dX5_odds_66 : decode cX5_odds 66 = .ok (.iload 5, 2) := by decide +kernel
theorem dX5_odds_68 : decode cX5_odds 68 = .ok (.iload 4, 2) := by decide +kernel
theorem dX5_odds_70 : decode cX5_odds 70 = .ok (.idiv, 1) := by decide +kernel
theorem dX5_odds_71 : decode cX5_odds 71 = .ok (.i2l, 1) := by decide +kernel
theorem dX5_odds_72 : decode cX5_odds 72 = .ok (.lmul, 1) := by decide +kernel
theorem dX5_odds_73 : decode cX5_odds 73 = .ok (.lstore 6, 2) := by decide +kernel
theorem dX5_odds_75 : decode cX5_odds 75 = .ok (.iinc 8 1, 3) := by decide +kernel
theorem dX5_odds_78 : decode cX5_odds 78 = .ok (.goto (-20), 3) := by decide +kernel
theorem dX5_odds_81 : decode cX5_odds 81 = .ok (.lload 6, 2) := by decide +kernel
theorem dX5_odds_83 : decode cX5_odds 83 = .ok (.lreturn, 1) := by decide +kernel
theorem dX5_seed_0 : decode cX5_seed 0 = .ok (.aload_n 0, 1) := by decide +kernel
theorem dX5_seed_1 : decode cX5_seed 1 = .ok (.getfield 10, 3) := by decide +kernel
theorem dX5_seed_4 : decode cX5_seed 4 = .ok (.getfield 160, 3) := by decide +kernel
theorem dX5_seed_7 : decode cX5_seed 7 = .ok (.istore_n 2, 1) := by decide +kernel
theorem dX5_seed_8 : decode cX5_seed 8 = .ok (.aload_n 0, 1) := by decide +kernel
theorem dX5_seed_9 : decode cX5_seed 9 = .ok (.getfield 10, 3) := by decide +kernel
theorem dX5_seed_12 : decode cX5_seed 12 = .ok (.iload_n 1, 1) := by decide +kernel
theorem dX5_seed_13 : decode cX5_seed 13 = .ok (.putfield 160, 3) := by decide +kernel
theorem dX5_seed_16 : decode cX5_seed 16 = .ok (.iload_n 2, 1) := by decide +kernel
theorem dX5_seed_17 : decode cX5_seed 17 = .ok (.ireturn, 1) := by decide +kernel
theorem dX5_feed_0 : decode cX5_feed 0 = .ok (.iload_n 2, 1) := by decide +kernel
theorem dX5_feed_1 : decode cX5_feed 1 = .ok (.iconst 1, 1) := by decide +kernel
theorem dX5_feed_2 : decode cX5_feed 2 = .ok (.iconst 4, 1) := by decide +kernel
theorem dX5_feed_3 : decode cX5_feed 3 = .ok (.invokestatic 46, 3) := by decide +kernel
theorem dX5_feed_6 : decode cX5_feed 6 = .ok (.ifCond .ne 9, 3) := by decide +kernel
theorem dX5_feed_9 : decode cX5_feed 9 = .ok (.aload_n 0, 1) := by decide +kernel
theorem dX5_feed_10 : decode cX5_feed 10 = .ok (.iconst 0, 1) := by decide +kernel
theorem dX5_feed_11 : decode cX5_feed 11 = .ok (.invokevirtual 50, 3) := by decide +kernel
theorem dX5_feed_14 : decode cX5_feed 14 = .ok (.ireturn, 1) := by decide +kernel
theorem dX5_feed_15 : decode cX5_feed 15 = .ok (.aload_n 0, 1) := by decide +kernel
theorem dX5_feed_16 : decode cX5_feed 16 = .ok (.getfield 25, 3) := by decide +kernel
theorem dX5_feed_19 : decode cX5_feed 19 = .ok (.getfield 163, 3) := by decide +kernel
theorem dX5_feed_22 : decode cX5_feed 22 = .ok (.iload_n 2, 1) := by decide +kernel
theorem dX5_feed_23 : decode cX5_feed 23 = .ok (.invokevirtual 167, 3) := by decide +kernel
theorem dX5_feed_26 : decode cX5_feed 26 = .ok (.ifCond .ne 9, 3) := by decide +kernel
theorem dX5_feed_29 : decode cX5_feed 29 = .ok (.aload_n 0, 1) := by decide +kernel
theorem dX5_feed_30 : decode cX5_feed 30 = .ok (.iconst 1, 1) := by decide +kernel
theorem dX5_feed_31 : decode cX5_feed 31 = .ok (.invokevirtual 50, 3) := by decide +kernel
theorem dX5_feed_34 : decode cX5_feed 34 = .ok (.ireturn, 1) := by decide +kernel
theorem dX5_feed_35 : decode cX5_feed 35 = .ok (.iload_n 2, 1) := by decide +kernel
theorem dX5_feed_36 : decode cX5_feed 36 = .ok (.iconst 1, 1) := by decide +kernel
theorem dX5_feed_37 : decode cX5_feed 37 = .ok (.isub, 1) := by decide +kernel
theorem dX5_feed_38 : decode cX5_feed 38 = .ok (.istore_n 3, 1) := by decide +kernel
theorem dX5_feed_39 : decode cX5_feed 39 = .ok (.iload_n 3, 1) := by decide +kernel
theorem dX5_feed_40 : decode cX5_feed 40 = .ok (.ifCond .lt 29, 3) := by decide +kernel
theorem dX5_feed_43 : decode cX5_feed 43 = .ok (.aload_n 0, 1) := by decide +kernel
theorem dX5_feed_44 : decode cX5_feed 44 = .ok (.getfield 25, 3) := by decide +kernel
theorem dX5_feed_47 : decode cX5_feed 47 = .ok (.getfield 163, 3) := by decide +kernel
theorem dX5_feed_50 : decode cX5_feed 50 = .ok (.iload_n 1, 1) := by decide +kernel
theorem dX5_feed_51 : decode cX5_feed 51 = .ok (.bipush 8, 2) := by decide +kernel
theorem dX5_feed_53 : decode cX5_feed 53 = .ok (.iload_n 3, 1) := by decide +kernel
theorem dX5_feed_54 : decode cX5_feed 54 = .ok (.imul, 1) := by decide +kernel
theorem dX5_feed_55 : decode cX5_feed 55 = .ok (.iushr, 1) := by decide +kernel
theorem dX5_feed_56 : decode cX5_feed 56 = .ok (.sipush 255, 3) := by decide +kernel
theorem dX5_feed_59 : decode cX5_feed 59 = .ok (.iand, 1) := by decide +kernel
theorem dX5_feed_60 : decode cX5_feed 60 = .ok (.invokevirtual 172, 3) := by decide +kernel
theorem dX5_feed_63 : decode cX5_feed 63 = .ok (.iinc 3 (-1), 3) := by decide +kernel
theorem dX5_feed_66 : decode cX5_feed 66 = .ok (.goto (-27), 3) := by decide +kernel
theorem dX5_feed_69 : decode cX5_feed 69 = .ok (.aload_n 0, 1) := by decide +kernel
theorem dX5_feed_70 : decode cX5_feed 70 = .ok (.getfield 25, 3) := by decide +kernel
theorem dX5_feed_73 : decode cX5_feed 73 = .ok (.getfield 163, 3) := by decide +kernel
theorem dX5_feed_76 : decode cX5_feed 76 = .ok (.getfield 174, 3) := by decide +kernel
theorem dX5_feed_79 : decode cX5_feed 79 = .ok (.ireturn, 1) := by decide +kernel
theorem dX5_wipe_0 : decode cX5_wipe 0 = .ok (.aload_n 0, 1) := by decide +kernel
theorem dX5_wipe_1 : decode cX5_wipe 1 = .ok (.getfield 25, 3) := by decide +kernel
theorem dX5_wipe_4 : decode cX5_wipe 4 = .ok (.getfield 163, 3) := by decide +kernel
theorem dX5_wipe_7 : decode cX5_wipe 7 = .ok (.getfield 174, 3) := by decide +kernel
theorem dX5_wipe_10 : decode cX5_wipe 10 = .ok (.istore_n 1, 1) := by decide +kernel
theorem dX5_wipe_11 : decode cX5_wipe 11 = .ok (.aload_n 0, 1) := by decide +kernel
theorem dX5_wipe_12 : decode cX5_wipe 12 = .ok (.getfield 25, 3) := by decide +kernel
theorem dX5_wipe_15 : decode cX5_wipe 15 = .ok (.getfield 163, 3) := by decide +kernel
theorem dX5_wipe_18 : decode cX5_wipe 18 = .ok (.iconst 0, 1) := by decide +kernel
theorem dX5_wipe_19 : decode cX5_wipe 19 = .ok (.putfield 174, 3) := by decide +kernel
theorem dX5_wipe_22 : decode cX5_wipe 22 = .ok (.iload_n 1, 1) := by decide +kernel
theorem dX5_wipe_23 : decode cX5_wipe 23 = .ok (.ireturn, 1) := by decide +kernel
theorem dX5_text_0 : decode cX5_text 0 = .ok (.aload_n 0, 1) := by decide +kernel
theorem dX5_text_1 : decode cX5_text 1 = .ok (.getfield 16, 3) := by decide +kernel
theorem dX5_text_4 : decode cX5_text 4 = .ok (.aload_n 0, 1) := by decide +kernel
theorem dX5_text_5 : decode cX5_text 5 = .ok (.getfield 10, 3) := by decide +kernel
theorem dX5_text_8 : decode cX5_text 8 = .ok (.invokevirtual 115, 3) := by decide +kernel
theorem dX5_text_11 : decode cX5_text 11 = .ok (.aload_n 0, 1) := by decide +kernel
theorem dX5_text_12 : decode cX5_text 12 = .ok (.getfield 25, 3) := by decide +kernel
theorem dX5_text_15 : decode cX5_text 15 = .ok (.aload_n 0, 1) := by decide +kernel
theorem dX5_text_16 : decode cX5_text 16 = .ok (.getfield 16, 3) := by decide +kernel
theorem dX5_text_19 : decode cX5_text 19 = .ok (.invokevirtual 177, 3) := by decide +kernel
theorem dX5_text_22 : decode cX5_text 22 = .ok (.istore_n 1, 1) := by decide +kernel
theorem dX5_text_23 : decode cX5_text 23 = .ok (.aload_n 0, 1) := by decide +kernel
theorem dX5_text_24 : decode cX5_text 24 = .ok (.getfield 25, 3) := by decide +kernel
theorem dX5_text_27 : decode cX5_text 27 = .ok (.getfield 163, 3) := by decide +kernel
theorem dX5_text_30 : decode cX5_text 30 = .ok (.iconst 0, 1) := by decide +kernel
theorem dX5_text_31 : decode cX5_text 31 = .ok (.putfield 174, 3) := by decide +kernel
theorem dX5_text_34 : decode cX5_text 34 = .ok (.iload_n 1, 1) := by decide +kernel
theorem dX5_text_35 : decode cX5_text 35 = .ok (.ifCond .lt 14, 3) := by decide +kernel
theorem dX5_text_38 : decode cX5_text 38 = .ok (.aload_n 0, 1) := by decide +kernel
theorem dX5_text_39 : decode cX5_text 39 = .ok (.getfield 10, 3) := by decide +kernel
theorem dX5_text_42 : decode cX5_text 42 = .ok (.aload_n 0, 1) := by decide +kernel
theorem dX5_text_43 : decode cX5_text 43 = .ok (.getfield 16, 3) := by decide +kernel
theorem dX5_text_46 : decode cX5_text 46 = .ok (.invokevirtual 115, 3) := by decide +kernel
theorem dX5_text_49 : decode cX5_text 49 = .ok (.iload_n 1, 1) := by decide +kernel
theorem dX5_text_50 : decode cX5_text 50 = .ok (.ireturn, 1) := by decide +kernel
theorem dX5_hold_0 : decode cX5_hold 0 = .ok (.iload_n 1, 1) := by decide +kernel
theorem dX5_hold_1 : decode cX5_hold 1 = .ok (.iconst 0, 1) := by decide +kernel
theorem dX5_hold_2 : decode cX5_hold 2 = .ok (.bipush 9, 2) := by decide +kernel
theorem dX5_hold_4 : decode cX5_hold 4 = .ok (.invokestatic 46, 3) := by decide +kernel
theorem dX5_hold_7 : decode cX5_hold 7 = .ok (.ifCond .eq 19, 3) := by decide +kernel
theorem dX5_hold_10 : decode cX5_hold 10 = .ok (.iload_n 2, 1) := by decide +kernel
theorem dX5_hold_11 : decode cX5_hold 11 = .ok (.iconst (-1), 1) := by decide +kernel
theorem dX5_hold_12 : decode cX5_hold 12 = .ok (.if_icmp .eq 20, 3) := by decide +kernel
theorem dX5_hold_15 : decode cX5_hold 15 = .ok (.aload_n 0, 1) := by decide +kernel
theorem dX5_hold_16 : decode cX5_hold 16 = .ok (.getfield 10, 3) := by decide +kernel
theorem dX5_hold_19 : decode cX5_hold 19 = .ok (.iload_n 2, 1) := by decide +kernel
theorem dX5_hold_20 : decode cX5_hold 20 = .ok (.invokevirtual 62, 3) := by decide +kernel
theorem dX5_hold_23 : decode cX5_hold 23 = .ok (.ifCond .ne 9, 3) := by decide +kernel
theorem dX5_hold_26 : decode cX5_hold 26 = .ok (.aload_n 0, 1) := by decide +kernel
theorem dX5_hold_27 : decode cX5_hold 27 = .ok (.iconst 0, 1) := by decide +kernel
theorem dX5_hold_28 : decode cX5_hold 28 = .ok (.invokevirtual 50, 3) := by decide +kernel
theorem dX5_hold_31 : decode cX5_hold 31 = .ok (.ireturn, 1) := by decide +kernel
theorem dX5_hold_32 : decode cX5_hold 32 = .ok (.aload_n 0, 1) := by decide +kernel
theorem dX5_hold_33 : decode cX5_hold 33 = .ok (.getfield 10, 3) := by decide +kernel
theorem dX5_hold_36 : decode cX5_hold 36 = .ok (.getfield 181, 3) := by decide +kernel
theorem dX5_hold_39 : decode cX5_hold 39 = .ok (.iload_n 1, 1) := by decide +kernel
theorem dX5_hold_40 : decode cX5_hold 40 = .ok (.iload_n 2, 1) := by decide +kernel
theorem dX5_hold_41 : decode cX5_hold 41 = .ok (.iastore, 1) := by decide +kernel
theorem dX5_hold_42 : decode cX5_hold 42 = .ok (.iconst 1, 1) := by decide +kernel
theorem dX5_hold_43 : decode cX5_hold 43 = .ok (.ireturn, 1) := by decide +kernel
theorem dX5_as_0 : decode cX5_as 0 = .ok (.iload_n 1, 1) := by decide +kernel
theorem dX5_as_1 : decode cX5_as 1 = .ok (.iconst 0, 1) := by decide +kernel
theorem dX5_as_2 : decode cX5_as 2 = .ok (.bipush 9, 2) := by decide +kernel
theorem dX5_as_4 : decode cX5_as 4 = .ok (.invokestatic 46, 3) := by decide +kernel
theorem dX5_as_7 : decode cX5_as 7 = .ok (.ifCond .eq 13, 3) := by decide +kernel
theorem dX5_as_10 : decode cX5_as 10 = .ok (.iload_n 2, 1) := by decide +kernel
theorem dX5_as_11 : decode cX5_as 11 = .ok (.iconst 0, 1) := by decide +kernel
theorem dX5_as_12 : decode cX5_as 12 = .ok (.bipush 6, 2) := by decide +kernel
theorem dX5_as_14 : decode cX5_as 14 = .ok (.invokestatic 46, 3) := by decide +kernel
theorem dX5_as_17 : decode cX5_as 17 = .ok (.ifCond .ne 9, 3) := by decide +kernel
theorem dX5_as_20 : decode cX5_as 20 = .ok (.aload_n 0, 1) := by decide +kernel
theorem dX5_as_21 : decode cX5_as 21 = .ok (.iconst 0, 1) := by decide +kernel
theorem dX5_as_22 : decode cX5_as 22 = .ok (.invokevirtual 50, 3) := by decide +kernel
theorem dX5_as_25 : decode cX5_as 25 = .ok (.ireturn, 1) := by decide +kernel
theorem dX5_as_26 : decode cX5_as 26 = .ok (.aload_n 0, 1) := by decide +kernel
theorem dX5_as_27 : decode cX5_as 27 = .ok (.getfield 10, 3) := by decide +kernel
theorem dX5_as_30 : decode cX5_as 30 = .ok (.getfield 181, 3) := by decide +kernel
theorem dX5_as_33 : decode cX5_as 33 = .ok (.iload_n 1, 1) := by decide +kernel
theorem dX5_as_34 : decode cX5_as 34 = .ok (.iaload, 1) := by decide +kernel
theorem dX5_as_35 : decode cX5_as 35 = .ok (.istore_n 3, 1) := by decide +kernel
theorem dX5_as_36 : decode cX5_as 36 = .ok (.aload_n 0, 1) := by decide +kernel
theorem dX5_as_37 : decode cX5_as 37 = .ok (.getfield 10, 3) := by decide +kernel
theorem dX5_as_40 : decode cX5_as 40 = .ok (.iload_n 3, 1) := by decide +kernel
theorem dX5_as_41 : decode cX5_as 41 = .ok (.invokevirtual 62, 3) := by decide +kernel
theorem dX5_as_44 : decode cX5_as 44 = .ok (.ifCond .ne 9, 3) := by decide +kernel
theorem dX5_as_47 : decode cX5_as 47 = .ok (.aload_n 0, 1) := by decide +kernel
theorem dX5_as_48 : decode cX5_as 48 = .ok (.iconst 5, 1) := by decide +kernel
theorem dX5_as_49 : decode cX5_as 49 = .ok (.invokevirtual 50, 3) := by decide +kernel
theorem dX5_as_52 : decode cX5_as 52 = .ok (.ireturn, 1) := by decide +kernel
theorem dX5_as_53 : decode cX5_as 53 = .ok (.aload_n 0, 1) := by decide +kernel
theorem dX5_as_54 : decode cX5_as 54 = .ok (.getfield 10, 3) := by decide +kernel
theorem dX5_as_57 : decode cX5_as 57 = .ok (.iload_n 3, 1) := by decide +kernel
theorem dX5_as_58 : decode cX5_as 58 = .ok (.iconst 0, 1) := by decide +kernel
theorem dX5_as_59 : decode cX5_as 59 = .ok (.invokevirtual 66, 3) := by decide +kernel
theorem dX5_as_62 : decode cX5_as 62 = .ok (.iload_n 2, 1) := by decide +kernel
theorem dX5_as_63 : decode cX5_as 63 = .ok (.invokestatic 184, 3) := by decide +kernel
theorem dX5_as_66 : decode cX5_as 66 = .ok (.ifCond .eq 7, 3) := by decide +kernel
theorem dX5_as_69 : decode cX5_as 69 = .ok (.iload_n 3, 1) := by decide +kernel
theorem dX5_as_70 : decode cX5_as 70 = .ok (.goto 8, 3) := by decide +kernel
theorem dX5_as_73 : decode cX5_as 73 = .ok (.aload_n 0, 1) := by decide +kernel
theorem dX5_as_74 : decode cX5_as 74 = .ok (.iconst 2, 1) := by decide +kernel
theorem dX5_as_75 : decode cX5_as 75 = .ok (.invokevirtual 50, 3) := by decide +kernel
theorem dX5_as_78 : decode cX5_as 78 = .ok (.ireturn, 1) := by decide +kernel
theorem dX5_sheet_0 : decode cX5_sheet 0 = .ok (.iload_n 1, 1) := by decide +kernel
theorem dX5_sheet_1 : decode cX5_sheet 1 = .ok (.invokestatic 187, 3) := by decide +kernel
theorem dX5_sheet_4 : decode cX5_sheet 4 = .ok (.ifCond .eq 25, 3) := by decide +kernel
theorem dX5_sheet_7 : decode cX5_sheet 7 = .ok (.iload_n 2, 1) := by decide +kernel
theorem dX5_sheet_8 : decode cX5_sheet 8 = .ok (.ifCond .eq 27, 3) := by decide +kernel
theorem dX5_sheet_11 : decode cX5_sheet 11 = .ok (.iload_n 2, 1) := by decide +kernel
theorem dX5_sheet_12 : decode cX5_sheet 12 = .ok (.bipush 8, 2) := by decide +kernel
theorem dX5_sheet_14 : decode cX5_sheet 14 = .ok (.if_icmp .eq 21, 3) := by decide +kernel
theorem dX5_sheet_17 : decode cX5_sheet 17 = .ok (.iload_n 2, 1) := by decide +kernel
theorem dX5_sheet_18 : decode cX5_sheet 18 = .ok (.bipush 16, 2) := by decide +kernel
theorem dX5_sheet_20 : decode cX5_sheet 20 = .ok (.if_icmp .eq 15, 3) := by decide +kernel
theorem dX5_sheet_23 : decode cX5_sheet 23 = .ok (.iload_n 2, 1) := by decide +kernel
theorem dX5_sheet_24 : decode cX5_sheet 24 = .ok (.bipush 32, 2) := by decide +kernel
theorem dX5_sheet_26 : decode cX5_sheet 26 = .ok (.if_icmp .eq 9, 3) := by decide +kernel
theorem dX5_sheet_29 : decode cX5_sheet 29 = .ok (.aload_n 0, 1) := by decide +kernel
theorem dX5_sheet_30 : decode cX5_sheet 30 = .ok (.iconst 0, 1) := by decide +kernel
theorem dX5_sheet_31 : decode cX5_sheet 31 = .ok (.invokevirtual 50, 3) := by decide +kernel
theorem dX5_sheet_34 : decode cX5_sheet 34 = .ok (.ireturn, 1) := by decide +kernel
theorem dX5_sheet_35 : decode cX5_sheet 35 = .ok (.iload_n 3, 1) := by decide +kernel
theorem dX5_sheet_36 : decode cX5_sheet 36 = .ok (.ifCond .ge 10, 3) := by decide +kernel
theorem dX5_sheet_39 : decode cX5_sheet 39 = .ok (.aload_n 0, 1) := by decide +kernel
theorem dX5_sheet_40 : decode cX5_sheet 40 = .ok (.bipush 6, 2) := by decide +kernel
theorem dX5_sheet_42 : decode cX5_sheet 42 = .ok (.invokevirtual 50, 3) := by decide +kernel
theorem dX5_sheet_45 : decode cX5_sheet 45 = .ok (.ireturn, 1) := by decide +kernel
theorem dX5_sheet_46 : decode cX5_sheet 46 = .ok (.iload_n 3, 1) := by decide +kernel
theorem dX5_sheet_47 : decode cX5_sheet 47 = .ok (.bipush 40, 2) := by decide +kernel
theorem dX5_sheet_49 : decode cX5_sheet 49 = .ok (.if_icmp .le 9, 3) := by decide +kernel
theorem dX5_sheet_52 : decode cX5_sheet 52 = .ok (.aload_n 0, 1) := by decide +kernel
theorem dX5_sheet_53 : decode cX5_sheet 53 = .ok (.iconst 0, 1) := by decide +kernel
theorem dX5_sheet_54 : decode cX5_sheet 54 = .ok (.invokevirtual 50, 3) := by decide +kernel
theorem dX5_sheet_57 : decode cX5_sheet 57 = .ok (.ireturn, 1) := by decide +kernel
theorem dX5_sheet_58 : decode cX5_sheet 58 = .ok (.aload_n 0, 1) := by decide +kernel
theorem dX5_sheet_59 : decode cX5_sheet 59 = .ok (.getfield 31, 3) := by decide +kernel
theorem dX5_sheet_62 : decode cX5_sheet 62 = .ok (.iload_n 1, 1) := by decide +kernel
theorem dX5_sheet_63 : decode cX5_sheet 63 = .ok (.aaload, 1) := by decide +kernel
theorem dX5_sheet_64 : decode cX5_sheet 64 = .ok (.iload_n 2, 1) := by decide +kernel
theorem dX5_sheet_65 : decode cX5_sheet 65 = .ok (.iload_n 3, 1) := by decide +kernel
theorem dX5_sheet_66 : decode cX5_sheet 66 = .ok (.invokevirtual 190, 3) := by decide +kernel
theorem dX5_sheet_69 : decode cX5_sheet 69 = .ok (.aload_n 0, 1) := by decide +kernel
theorem dX5_sheet_70 : decode cX5_sheet 70 = .ok (.getfield 31, 3) := by decide +kernel
theorem dX5_sheet_73 : decode cX5_sheet 73 = .ok (.iload_n 1, 1) := by decide +kernel
theorem dX5_sheet_74 : decode cX5_sheet 74 = .ok (.aaload, 1) := by decide +kernel
theorem dX5_sheet_75 : decode cX5_sheet 75 = .ok (.getfield 194, 3) := by decide +kernel
theorem dX5_sheet_78 : decode cX5_sheet 78 = .ok (.ireturn, 1) := by decide +kernel
theorem dX5_write_0 : decode cX5_write 0 = .ok (.aload_n 0, 1) := by decide +kernel
theorem dX5_write_1 : decode cX5_write 1 = .ok (.iload_n 1, 1) := by decide +kernel
theorem dX5_write_2 : decode cX5_write 2 = .ok (.invokevirtual 195, 3) := by decide +kernel
theorem dX5_write_5 : decode cX5_write 5 = .ok (.istore 4, 2) := by decide +kernel
theorem dX5_write_7 : decode cX5_write 7 = .ok (.iload 4, 2) := by decide +kernel
theorem dX5_write_9 : decode cX5_write 9 = .ok (.iconst (-1), 1) := by decide +kernel
theorem dX5_write_10 : decode cX5_write 10 = .ok (.if_icmp .eq 10, 3) := by decide +kernel
theorem dX5_write_13 : decode cX5_write 13 = .ok (.aload_n 0, 1) := by decide +kernel
theorem dX5_write_14 : decode cX5_write 14 = .ok (.iload 4, 2) := by decide +kernel
theorem dX5_write_16 : decode cX5_write 16 = .ok (.invokevirtual 50, 3) := by decide +kernel
theorem dX5_write_19 : decode cX5_write 19 = .ok (.ireturn, 1) := by decide +kernel
theorem dX5_write_20 : decode cX5_write 20 = .ok (.iload_n 2, 1) := by decide +kernel
theorem dX5_write_21 : decode cX5_write 21 = .ok (.iconst 0, 1) := by decide +kernel
theorem dX5_write_22 : decode cX5_write 22 = .ok (.aload_n 0, 1) := by decide +kernel
theorem dX5_write_23 : decode cX5_write 23 = .ok (.getfield 31, 3) := by decide +kernel
theorem dX5_write_26 : decode cX5_write 26 = .ok (.iload_n 1, 1) := by decide +kernel
theorem dX5_write_27 : decode cX5_write 27 = .ok (.aaload, 1) := by decide +kernel
theorem dX5_write_28 : decode cX5_write 28 = .ok (.getfield 194, 3) := by decide +kernel
theorem dX5_write_31 : decode cX5_write 31 = .ok (.iconst 1, 1) := by decide +kernel
theorem dX5_write_32 : decode cX5_write 32 = .ok (.isub, 1) := by decide +kernel
theorem dX5_write_33 : decode cX5_write 33 = .ok (.invokestatic 46, 3) := by decide +kernel
theorem dX5_write_36 : decode cX5_write 36 = .ok (.ifCond .ne 9, 3) := by decide +kernel
theorem dX5_write_39 : decode cX5_write 39 = .ok (.aload_n 0, 1) := by decide +kernel
theorem dX5_write_40 : decode cX5_write 40 = .ok (.iconst 0, 1) := by decide +kernel
theorem dX5_write_41 : decode cX5_write 41 = .ok (.invokevirtual 50, 3) := by decide +kernel
theorem dX5_write_44 : decode cX5_write 44 = .ok (.ireturn, 1) := by decide +kernel
theorem dX5_write_45 : decode cX5_write 45 = .ok (.aload_n 0, 1) := by decide +kernel
theorem dX5_write_46 : decode cX5_write 46 = .ok (.getfield 31, 3) := by decide +kernel
theorem dX5_write_49 : decode cX5_write 49 = .ok (.iload_n 1, 1) := by decide +kernel
theorem dX5_write_50 : decode cX5_write 50 = .ok (.aaload, 1) := by decide +kernel
theorem dX5_write_51 : decode cX5_write 51 = .ok (.iload_n 2, 1) := by decide +kernel
theorem dX5_write_52 : decode cX5_write 52 = .ok (.iload_n 3, 1) := by decide +kernel
theorem dX5_write_53 : decode cX5_write 53 = .ok (.invokevirtual 198, 3) := by decide +kernel
theorem dX5_write_56 : decode cX5_write 56 = .ok (.iconst 1, 1) := by decide +kernel
theorem dX5_write_57 : decode cX5_write 57 = .ok (.ireturn, 1) := by decide +kernel
theorem dX5_copy_0 : decode cX5_copy 0 = .ok (.iload_n 1, 1) := by decide +kernel
theorem dX5_copy_1 : decode cX5_copy 1 = .ok (.invokestatic 187, 3) := by decide +kernel
theorem dX5_copy_4 : decode cX5_copy 4 = .ok (.ifCond .eq 10, 3) := by decide +kernel
theorem dX5_copy_7 : decode cX5_copy 7 = .ok (.iload_n 3, 1) := by decide +kernel
theorem dX5_copy_8 : decode cX5_copy 8 = .ok (.invokestatic 187, 3) := by decide +kernel
theorem dX5_copy_11 : decode cX5_copy 11 = .ok (.ifCond .ne 9, 3) := by decide +kernel
theorem dX5_copy_14 : decode cX5_copy 14 = .ok (.aload_n 0, 1) := by decide +kernel
theorem dX5_copy_15 : decode cX5_copy 15 = .ok (.iconst 0, 1) := by decide +kernel
theorem dX5_copy_16 : decode cX5_copy 16 = .ok (.invokevirtual 50, 3) := by decide +kernel
theorem dX5_copy_19 : decode cX5_copy 19 = .ok (.ireturn, 1) := by decide +kernel
theorem dX5_copy_20 : decode cX5_copy 20 = .ok (.aload_n 0, 1) := by decide +kernel
theorem dX5_copy_21 : decode cX5_copy 21 = .ok (.getfield 31, 3) := by decide +kernel
theorem dX5_copy_24 : decode cX5_copy 24 = .ok (.iload_n 1, 1) := by decide +kernel
theorem dX5_copy_25 : decode cX5_copy 25 = .ok (.aaload, 1) := by decide +kernel
theorem dX5_copy_26 : decode cX5_copy 26 = .ok (.astore 6, 2) := by decide +kernel
theorem dX5_copy_28 : decode cX5_copy 28 = .ok (.aload_n 0, 1) := by decide +kernel
theorem dX5_copy_29 : decode cX5_copy 29 = .ok (.getfield 31, 3) := by decide +kernel
theorem dX5_copy_32 : decode cX5_copy 32 = .ok (.iload_n 3, 1) := by decide +kernel
theorem dX5_copy_33 : decode cX5_copy 33 = .ok (.aaload, 1) := by decide +kernel
theorem dX5_copy_34 : decode cX5_copy 34 = .ok (.astore 7, 2) := by decide +kernel
theorem dX5_copy_36 : decode cX5_copy 36 = .ok (.aload 6, 2) := by decide +kernel
theorem dX5_copy_38 : decode cX5_copy 38 = .ok (.getfield 200, 3) := by decide +kernel
theorem dX5_copy_41 : decode cX5_copy 41 = .ok (.ifCond .eq 11, 3) := by decide +kernel
theorem dX5_copy_44 : decode cX5_copy 44 = .ok (.aload 7, 2) := by decide +kernel
theorem dX5_copy_46 : decode cX5_copy 46 = .ok (.getfield 200, 3) := by decide +kernel
theorem dX5_copy_49 : decode cX5_copy 49 = .ok (.ifCond .ne 9, 3) := by decide +kernel
theorem dX5_copy_52 : decode cX5_copy 52 = .ok (.aload_n 0, 1) := by decide +kernel
theorem dX5_copy_53 : decode cX5_copy 53 = .ok (.iconst 5, 1) := by decide +kernel
theorem dX5_copy_54 : decode cX5_copy 54 = .ok (.invokevirtual 50, 3) := by decide +kernel
theorem dX5_copy_57 : decode cX5_copy 57 = .ok (.ireturn, 1) := by decide +kernel
theorem dX5_copy_58 : decode cX5_copy 58 = .ok (.aload 6, 2) := by decide +kernel
theorem dX5_copy_60 : decode cX5_copy 60 = .ok (.getfield 200, 3) := by decide +kernel
theorem dX5_copy_63 : decode cX5_copy 63 = .ok (.aload 7, 2) := by decide +kernel
theorem dX5_copy_65 : decode cX5_copy 65 = .ok (.getfield 200, 3) := by decide +kernel
theorem dX5_copy_68 : decode cX5_copy 68 = .ok (.if_icmp .eq 9, 3) := by decide +kernel
theorem dX5_copy_71 : decode cX5_copy 71 = .ok (.aload_n 0, 1) := by decide +kernel
theorem dX5_copy_72 : decode cX5_copy 72 = .ok (.iconst 2, 1) := by decide +kernel
theorem dX5_copy_73 : decode cX5_copy 73 = .ok (.invokevirtual 50, 3) := by decide +kernel
theorem dX5_copy_76 : decode cX5_copy 76 = .ok (.ireturn, 1) := by decide +kernel
theorem dX5_copy_77 : decode cX5_copy 77 = .ok (.aload 6, 2) := by decide +kernel
theorem dX5_copy_79 : decode cX5_copy 79 = .ok (.iload_n 2, 1) := by decide +kernel
theorem dX5_copy_80 : decode cX5_copy 80 = .ok (.iload 5, 2) := by decide +kernel
theorem dX5_copy_82 : decode cX5_copy 82 = .ok (.invokevirtual 203, 3) := by decide +kernel
theorem dX5_copy_85 : decode cX5_copy 85 = .ok (.ifCond .eq 15, 3) := by decide +kernel
theorem dX5_copy_88 : decode cX5_copy 88 = .ok (.aload 7, 2) := by decide +kernel
theorem dX5_copy_90 : decode cX5_copy 90 = .ok (.iload 4, 2) := by decide +kernel
theorem dX5_copy_92 : decode cX5_copy 92 = .ok (.iload 5, 2) := by decide +kernel
theorem dX5_copy_94 : decode cX5_copy 94 = .ok (.invokevirtual 203, 3) := by decide +kernel
theorem dX5_copy_97 : decode cX5_copy 97 = .ok (.ifCond .ne 9, 3) := by decide +kernel
theorem dX5_copy_100 : decode cX5_copy 100 = .ok (.aload_n 0, 1) := by decide +kernel
theorem dX5_copy_101 : decode cX5_copy 101 = .ok (.iconst 0, 1) := by decide +kernel
theorem dX5_copy_102 : decode cX5_copy 102 = .ok (.invokevirtual 50, 3) := by decide +kernel
theorem dX5_copy_105 : decode cX5_copy 105 = .ok (.ireturn, 1) := by decide +kernel
theorem dX5_copy_106 : decode cX5_copy 106 = .ok (.aload 6, 2) := by decide +kernel
theorem dX5_copy_108 : decode cX5_copy 108 = .ok (.getfield 206, 3) := by decide +kernel
theorem dX5_copy_111 : decode cX5_copy 111 = .ok (.iload_n 2, 1) := by decide +kernel
theorem dX5_copy_112 : decode cX5_copy 112 = .ok (.aload 7, 2) := by decide +kernel
theorem dX5_copy_114 : decode cX5_copy 114 = .ok (.getfield 206, 3) := by decide +kernel
theorem dX5_copy_117 : decode cX5_copy 117 = .ok (.iload 4, 2) := by decide +kernel
theorem dX5_copy_119 : decode cX5_copy 119 = .ok (.iload 5, 2) := by decide +kernel
theorem dX5_copy_121 : decode cX5_copy 121 = .ok (.invokestatic 209, 3) := by decide +kernel
theorem dX5_copy_124 : decode cX5_copy 124 = .ok (.iload 5, 2) := by decide +kernel
theorem dX5_copy_126 : decode cX5_copy 126 = .ok (.ireturn, 1) := by decide +kernel
theorem dX5_load_0 : decode cX5_load 0 = .ok (.aload_n 0, 1) := by decide +kernel
theorem dX5_load_1 : decode cX5_load 1 = .ok (.iload_n 1, 1) := by decide +kernel
theorem dX5_load_2 : decode cX5_load 2 = .ok (.invokevirtual 195, 3) := by decide +kernel
theorem dX5_load_5 : decode cX5_load 5 = .ok (.istore_n 2, 1) := by decide +kernel
theorem dX5_load_6 : decode cX5_load 6 = .ok (.iload_n 2, 1) := by decide +kernel
theorem dX5_load_7 : decode cX5_load 7 = .ok (.iconst (-1), 1) := by decide +kernel
theorem dX5_load_8 : decode cX5_load 8 = .ok (.if_icmp .eq 9, 3) := by decide +kernel
theorem dX5_load_11 : decode cX5_load 11 = .ok (.aload_n 0, 1) := by decide +kernel
theorem dX5_load_12 : decode cX5_load 12 = .ok (.iload_n 2, 1) := by decide +kernel
theorem dX5_load_13 : decode cX5_load 13 = .ok (.invokevirtual 50, 3) := by decide +kernel
theorem dX5_load_16 : decode cX5_load 16 = .ok (.ireturn, 1) := by decide +kernel
theorem dX5_load_17 : decode cX5_load 17 = .ok (.iconst 0, 1) := by decide +kernel
theorem dX5_load_18 : decode cX5_load 18 = .ok (.istore_n 3, 1) := by decide +kernel
theorem dX5_load_19 : decode cX5_load 19 = .ok (.iconst 0, 1) := by decide +kernel
theorem dX5_load_20 : decode cX5_load 20 = .ok (.istore 4, 2) := by decide +kernel
theorem dX5_load_22 : decode cX5_load 22 = .ok (.iload 4, 2) := by decide +kernel
theorem dX5_load_24 : decode cX5_load 24 = .ok (.aload_n 0, 1) := by decide +kernel
theorem dX5_load_25 : decode cX5_load 25 = .ok (.getfield 31, 3) := by decide +kernel
theorem dX5_load_28 : decode cX5_load 28 = .ok (.iload_n 1, 1) := by decide +kernel
theorem dX5_load_29 : decode cX5_load 29 = .ok (.aaload, 1) := by decide +kernel
theorem dX5_load_30 : decode cX5_load 30 = .ok (.getfield 194, 3) := by decide +kernel
theorem dX5_load_33 : decode cX5_load 33 = .ok (.if_icmp .ge 64, 3) := by decide +kernel
theorem dX5_load_36 : decode cX5_load 36 = .ok (.aload_n 0, 1) := by decide +kernel
theorem dX5_load_37 : decode cX5_load 37 = .ok (.getfield 31, 3) := by decide +kernel
theorem dX5_load_40 : decode cX5_load 40 = .ok (.iload_n 1, 1) := by decide +kernel
theorem dX5_load_41 : decode cX5_load 41 = .ok (.aaload, 1) := by decide +kernel
theorem dX5_load_42 : decode cX5_load 42 = .ok (.getfield 206, 3) := by decide +kernel
theorem dX5_load_45 : decode cX5_load 45 = .ok (.iload 4, 2) := by decide +kernel
theorem dX5_load_47 : decode cX5_load 47 = .ok (.iaload, 1) := by decide +kernel
theorem dX5_load_48 : decode cX5_load 48 = .ok (.istore 5, 2) := by decide +kernel
theorem dX5_load_50 : decode cX5_load 50 = .ok (.aload_n 0, 1) := by decide +kernel
theorem dX5_load_51 : decode cX5_load 51 = .ok (.getfield 10, 3) := by decide +kernel
theorem dX5_load_54 : decode cX5_load 54 = .ok (.iload 4, 2) := by decide +kernel
theorem dX5_load_56 : decode cX5_load 56 = .ok (.invokevirtual 62, 3) := by decide +kernel
theorem dX5_load_59 : decode cX5_load 59 = .ok (.ifCond .eq 38, 3) := by decide +kernel
theorem dX5_load_62 : decode cX5_load 62 = .ok (.iload 5, 2) := by decide +kernel
theorem dX5_load_64 : decode cX5_load 64 = .ok (.iconst 0, 1) := by decide +kernel
theorem dX5_load_65 : decode cX5_load 65 = .ok (.bipush 59, 2) := by decide +kernel
theorem dX5_load_67 : decode cX5_load 67 = .ok (.invokestatic 46, 3) := by decide +kernel
theorem dX5_load_70 : decode cX5_load 70 = .ok (.ifCond .ne 6, 3) := by decide +kernel
theorem dX5_load_73 : decode cX5_load 73 = .ok (.goto 24, 3) := by decide +kernel
theorem dX5_load_76 : decode cX5_load 76 = .ok (.aload_n 0, 1) := by decide +kernel
theorem dX5_load_77 : decode cX5_load 77 = .ok (.getfield 10, 3) := by decide +kernel
theorem dX5_load_80 : decode cX5_load 80 = .ok (.iload 4, 2) := by decide +kernel
theorem dX5_load_82 : decode cX5_load 82 = .ok (.iconst 1, 1) := by decide +kernel
theorem dX5_load_83 : decode cX5_load 83 = .ok (.iload 5, 2) := by decide +kernel
theorem dX5_load_85 : decode cX5_load 85 = .ok (.invokevirtual 72, 3) := by decide +kernel
theorem dX5_load_88 : decode cX5_load 88 = .ok (.iinc 3 1, 3) := by decide +kernel
theorem dX5_load_91 : decode cX5_load 91 = .ok (.iinc 4 1, 3) := by decide +kernel
theorem dX5_load_94 : decode cX5_load 94 = .ok (.goto (-72), 3) := by decide +kernel
theorem dX5_load_97 : decode cX5_load 97 = .ok (.iload_n 3, 1) := by decide +kernel
theorem dX5_load_98 : decode cX5_load 98 = .ok (.ireturn, 1) := by decide +kernel
theorem dX5_judge_0 : decode cX5_judge 0 = .ok (.aload_n 0, 1) := by decide +kernel
theorem dX5_judge_1 : decode cX5_judge 1 = .ok (.iload_n 1, 1) := by decide +kernel
theorem dX5_judge_2 : decode cX5_judge 2 = .ok (.invokevirtual 195, 3) := by decide +kernel
theorem dX5_judge_5 : decode cX5_judge 5 = .ok (.istore_n 2, 1) := by decide +kernel
theorem dX5_judge_6 : decode cX5_judge 6 = .ok (.iload_n 2, 1) := by decide +kernel
theorem dX5_judge_7 : decode cX5_judge 7 = .ok (.iconst (-1), 1) := by decide +kernel
theorem dX5_judge_8 : decode cX5_judge 8 = .ok (.if_icmp .eq 9, 3) := by decide +kernel
theorem dX5_judge_11 : decode cX5_judge 11 = .ok (.aload_n 0, 1) := by decide +kernel
theorem dX5_judge_12 : decode cX5_judge 12 = .ok (.iload_n 2, 1) := by decide +kernel
theorem dX5_judge_13 : decode cX5_judge 13 = .ok (.invokevirtual 50, 3) := by decide +kernel
theorem dX5_judge_16 : decode cX5_judge 16 = .ok (.ireturn, 1) := by decide +kernel
theorem dX5_judge_17 : decode cX5_judge 17 = .ok (.iconst 0, 1) := by decide +kernel
theorem dX5_judge_18 : decode cX5_judge 18 = .ok (.istore_n 3, 1) := by decide +kernel
theorem dX5_judge_19 : decode cX5_judge 19 = .ok (.iload_n 3, 1) := by decide +kernel
theorem dX5_judge_20 : decode cX5_judge 20 = .ok (.aload_n 0, 1) := by decide +kernel
theorem dX5_judge_21 : decode cX5_judge 21 = .ok (.getfield 31, 3) := by decide +kernel
theorem dX5_judge_24 : decode cX5_judge 24 = .ok (.iload_n 1, 1) := by decide +kernel
theorem dX5_judge_25 : decode cX5_judge 25 = .ok (.aaload, 1) := by decide +kernel
theorem dX5_judge_26 : decode cX5_judge 26 = .ok (.getfield 194, 3) := by decide +kernel
theorem dX5_judge_29 : decode cX5_judge 29 = .ok (.if_icmp .ge 48, 3) := by decide +kernel
theorem dX5_judge_32 : decode cX5_judge 32 = .ok (.aload_n 0, 1) := by decide +kernel
theorem dX5_judge_33 : decode cX5_judge 33 = .ok (.getfield 10, 3) := by decide +kernel
theorem dX5_judge_36 : decode cX5_judge 36 = .ok (.iload_n 3, 1) := by decide +kernel
theorem dX5_judge_37 : decode cX5_judge 37 = .ok (.invokevirtual 62, 3) := by decide +kernel
theorem dX5_judge_40 : decode cX5_judge 40 = .ok (.ifCond .eq 27, 3) := by decide +kernel
theorem dX5_judge_43 : decode cX5_judge 43 = .ok (.aload_n 0, 1) := by decide +kernel
theorem dX5_judge_44 : decode cX5_judge 44 = .ok (.getfield 10, 3) := by decide +kernel
theorem dX5_judge_47 : decode cX5_judge 47 = .ok (.iload_n 3, 1) := by decide +kernel
theorem dX5_judge_48 : decode cX5_judge 48 = .ok (.bipush 9, 2) := by decide +kernel
theorem dX5_judge_50 : decode cX5_judge 50 = .ok (.invokevirtual 66, 3) := by decide +kernel
theorem dX5_judge_53 : decode cX5_judge 53 = .ok (.aload_n 0, 1) := by decide +kernel
theorem dX5_judge_54 : decode cX5_judge 54 = .ok (.getfield 31, 3) := by decide +kernel
theorem dX5_judge_57 : decode cX5_judge 57 = .ok (.iload_n 1, 1) := by decide +kernel
theorem dX5_judge_58 : decode cX5_judge 58 = .ok (.aaload, 1) := by decide +kernel
theorem dX5_judge_59 : decode cX5_judge 59 = .ok (.getfield 206, 3) := by decide +kernel
theorem dX5_judge_62 : decode cX5_judge 62 = .ok (.iload_n 3, 1) := by decide +kernel
theorem dX5_judge_63 : decode cX5_judge 63 = .ok (.iaload, 1) := by decide +kernel
theorem dX5_judge_64 : decode cX5_judge 64 = .ok (.if_icmp .eq 7, 3) := by decide +kernel
theorem dX5_judge_67 : decode cX5_judge 67 = .ok (.iconst 1, 1) := by decide +kernel
theorem dX5_judge_68 : decode cX5_judge 68 = .ok (.iload_n 3, 1) := by decide +kernel
theorem dX5_judge_69 : decode cX5_judge 69 = .ok (.iadd, 1) := by decide +kernel
theorem dX5_judge_70 : decode cX5_judge 70 = .ok (.ireturn, 1) := by decide +kernel
theorem dX5_judge_71 : decode cX5_judge 71 = .ok (.iinc 3 1, 3) := by decide +kernel
theorem dX5_judge_74 : decode cX5_judge 74 = .ok (.goto (-55), 3) := by decide +kernel
theorem dX5_judge_77 : decode cX5_judge 77 = .ok (.iconst 0, 1) := by decide +kernel
theorem dX5_judge_78 : decode cX5_judge 78 = .ok (.ireturn, 1) := by decide +kernel
theorem dX5_image_0 : decode cX5_image 0 = .ok (.aload_n 0, 1) := by decide +kernel
theorem dX5_image_1 : decode cX5_image 1 = .ok (.getfield 19, 3) := by decide +kernel
theorem dX5_image_4 : decode cX5_image 4 = .ok (.aload_n 0, 1) := by decide +kernel
theorem dX5_image_5 : decode cX5_image 5 = .ok (.getfield 10, 3) := by decide +kernel
theorem dX5_image_8 : decode cX5_image 8 = .ok (.invokevirtual 115, 3) := by decide +kernel
theorem dX5_image_11 : decode cX5_image 11 = .ok (.aload_n 0, 1) := by decide +kernel
theorem dX5_image_12 : decode cX5_image 12 = .ok (.iconst 1, 1) := by decide +kernel
theorem dX5_image_13 : decode cX5_image 13 = .ok (.putfield 39, 3) := by decide +kernel
theorem dX5_image_16 : decode cX5_image 16 = .ok (.iconst 1, 1) := by decide +kernel
theorem dX5_image_17 : decode cX5_image 17 = .ok (.ireturn, 1) := by decide +kernel
theorem dX5_undo_0 : decode cX5_undo 0 = .ok (.aload_n 0, 1) := by decide +kernel
theorem dX5_undo_1 : decode cX5_undo 1 = .ok (.getfield 39, 3) := by decide +kernel
theorem dX5_undo_4 : decode cX5_undo 4 = .ok (.ifCond .ne 9, 3) := by decide +kernel
theorem dX5_undo_7 : decode cX5_undo 7 = .ok (.aload_n 0, 1) := by decide +kernel
theorem dX5_undo_8 : decode cX5_undo 8 = .ok (.iconst 3, 1) := by decide +kernel
theorem dX5_undo_9 : decode cX5_undo 9 = .ok (.invokevirtual 50, 3) := by decide +kernel
theorem dX5_undo_12 : decode cX5_undo 12 = .ok (.ireturn, 1) := by decide +kernel
theorem dX5_undo_13 : decode cX5_undo 13 = .ok (.aload_n 0, 1) := by decide +kernel
theorem dX5_undo_14 : decode cX5_undo 14 = .ok (.getfield 10, 3) := by decide +kernel
theorem dX5_undo_17 : decode cX5_undo 17 = .ok (.aload_n 0, 1) := by decide +kernel
theorem dX5_undo_18 : decode cX5_undo 18 = .ok (.getfield 19, 3) := by decide +kernel
theorem dX5_undo_21 : decode cX5_undo 21 = .ok (.invokevirtual 115, 3) := by decide +kernel
theorem dX5_undo_24 : decode cX5_undo 24 = .ok (.aload_n 0, 1) := by decide +kernel
theorem dX5_undo_25 : decode cX5_undo 25 = .ok (.getfield 10, 3) := by decide +kernel
theorem dX5_undo_28 : decode cX5_undo 28 = .ok (.getfield 93, 3) := by decide +kernel
theorem dX5_undo_31 : decode cX5_undo 31 = .ok (.ireturn, 1) := by decide +kernel
theorem dX5_tear_0 : decode cX5_tear 0 = .ok (.aload_n 0, 1) := by decide +kernel
theorem dX5_tear_1 : decode cX5_tear 1 = .ok (.getfield 39, 3) := by decide +kernel
theorem dX5_tear_4 : decode cX5_tear 4 = .ok (.ifCond .eq 7, 3) := by decide +kernel
theorem dX5_tear_7 : decode cX5_tear 7 = .ok (.iconst 1, 1) := by decide +kernel
theorem dX5_tear_8 : decode cX5_tear 8 = .ok (.goto 4, 3) := by decide +kernel
theorem dX5_tear_11 : decode cX5_tear 11 = .ok (.iconst 0, 1) := by decide +kernel
theorem dX5_tear_12 : decode cX5_tear 12 = .ok (.istore_n 1, 1) := by decide +kernel
theorem dX5_tear_13 : decode cX5_tear 13 = .ok (.aload_n 0, 1) := by decide +kernel
theorem dX5_tear_14 : decode cX5_tear 14 = .ok (.iconst 0, 1) := by decide +kernel
theorem dX5_tear_15 : decode cX5_tear 15 = .ok (.putfield 39, 3) := by decide +kernel
theorem dX5_tear_18 : decode cX5_tear 18 = .ok (.iload_n 1, 1) := by decide +kernel
theorem dX5_tear_19 : decode cX5_tear 19 = .ok (.ireturn, 1) := by decide +kernel
theorem dX5_count_0 : decode cX5_count 0 = .ok (.iload_n 1, 1) := by decide +kernel
theorem dX5_count_1 : decode cX5_count 1 = .ok (.tableswitch 119 0 7 #[47, 55, 63, 73, 81, 92, 103, 111], 47) := by decide +kernel
theorem dX5_count_48 : decode cX5_count 48 = .ok (.aload_n 0, 1) := by decide +kernel
theorem dX5_count_49 : decode cX5_count 49 = .ok (.getfield 10, 3) := by decide +kernel
theorem dX5_count_52 : decode cX5_count 52 = .ok (.getfield 93, 3) := by decide +kernel
theorem dX5_count_55 : decode cX5_count 55 = .ok (.ireturn, 1) := by decide +kernel
theorem dX5_count_56 : decode cX5_count 56 = .ok (.aload_n 0, 1) := by decide +kernel
theorem dX5_count_57 : decode cX5_count 57 = .ok (.getfield 10, 3) := by decide +kernel
theorem dX5_count_60 : decode cX5_count 60 = .ok (.getfield 127, 3) := by decide +kernel
theorem dX5_count_63 : decode cX5_count 63 = .ok (.ireturn, 1) := by decide +kernel
theorem dX5_count_64 : decode cX5_count 64 = .ok (.aload_n 0, 1) := by decide +kernel
theorem dX5_count_65 : decode cX5_count 65 = .ok (.getfield 10, 3) := by decide +kernel
theorem dX5_count_68 : decode cX5_count 68 = .ok (.bipush 9, 2) := by decide +kernel
theorem dX5_count_70 : decode cX5_count 70 = .ok (.invokevirtual 103, 3) := by decide +kernel
theorem dX5_count_73 : decode cX5_count 73 = .ok (.ireturn, 1) := by decide +kernel
theorem dX5_count_74 : decode cX5_count 74 = .ok (.aload_n 0, 1) := by decide +kernel
theorem dX5_count_75 : decode cX5_count 75 = .ok (.getfield 10, 3) := by decide +kernel
theorem dX5_count_78 : decode cX5_count 78 = .ok (.getfield 100, 3) := by decide +kernel
theorem dX5_count_81 : decode cX5_count 81 = .ok (.ireturn, 1) := by decide +kernel
theorem dX5_count_82 : decode cX5_count 82 = .ok (.aload_n 0, 1) := by decide +kernel
theorem dX5_count_83 : decode cX5_count 83 = .ok (.getfield 10, 3) := by decide +kernel
theorem dX5_count_86 : decode cX5_count 86 = .ok (.invokevirtual 106, 3) := by decide +kernel
theorem dX5_count_89 : decode cX5_count 89 = .ok (.invokestatic 130, 3) := by decide +kernel
theorem dX5_count_92 : decode cX5_count 92 = .ok (.ireturn, 1) := by decide +kernel
theorem dX5_count_93 : decode cX5_count 93 = .ok (.aload_n 0, 1) := by decide +kernel
theorem dX5_count_94 : decode cX5_count 94 = .ok (.getfield 25, 3) := by decide +kernel
theorem dX5_count_97 : decode cX5_count 97 = .ok (.getfield 163, 3) := by decide +kernel
theorem dX5_count_100 : decode cX5_count 100 = .ok (.getfield 174, 3) := by decide +kernel
theorem dX5_count_103 : decode cX5_count 103 = .ok (.ireturn, 1) := by decide +kernel
theorem dX5_count_104 : decode cX5_count 104 = .ok (.aload_n 0, 1) := by decide +kernel
theorem dX5_count_105 : decode cX5_count 105 = .ok (.getfield 10, 3) := by decide +kernel
theorem dX5_count_108 : decode cX5_count 108 = .ok (.getfield 160, 3) := by decide +kernel
theorem dX5_count_111 : decode cX5_count 111 = .ok (.ireturn, 1) := by decide +kernel
theorem dX5_count_112 : decode cX5_count 112 = .ok (.aload_n 0, 1) := by decide +kernel
theorem dX5_count_113 : decode cX5_count 113 = .ok (.getfield 10, 3) := by decide +kernel
theorem dX5_count_116 : decode cX5_count 116 = .ok (.invokevirtual 215, 3) := by decide +kernel
theorem dX5_count_119 : decode cX5_count 119 = .ok (.ireturn, 1) := by decide +kernel
theorem dX5_count_120 : decode cX5_count 120 = .ok (.aload_n 0, 1) := by decide +kernel
theorem dX5_count_121 : decode cX5_count 121 = .ok (.iconst 0, 1) := by decide +kernel
theorem dX5_count_122 : decode cX5_count 122 = .ok (.invokevirtual 50, 3) := by decide +kernel
theorem dX5_count_125 : decode cX5_count 125 = .ok (.ireturn, 1) := by decide +kernel
theorem dX5_status_0 : decode cX5_status 0 = .ok (.iload_n 1, 1) := by decide +kernel
theorem dX5_status_1 : decode cX5_status 1 = .ok (.iconst (-1), 1) := by decide +kernel
theorem dX5_status_2 : decode cX5_status 2 = .ok (.bipush 6, 2) := by decide +kernel
theorem dX5_status_4 : decode cX5_status 4 = .ok (.invokestatic 46, 3) := by decide +kernel
theorem dX5_status_7 : decode cX5_status 7 = .ok (.ifCond .ne 9, 3) := by decide +kernel
theorem dX5_status_10 : decode cX5_status 10 = .ok (.aload_n 0, 1) := by decide +kernel
theorem dX5_status_11 : decode cX5_status 11 = .ok (.iconst 0, 1) := by decide +kernel
theorem dX5_status_12 : decode cX5_status 12 = .ok (.invokevirtual 50, 3) := by decide +kernel
theorem dX5_status_15 : decode cX5_status 15 = .ok (.ireturn, 1) := by decide +kernel
theorem dX5_status_16 : decode cX5_status 16 = .ok (.iload_n 1, 1) := by decide +kernel
theorem dX5_status_17 : decode cX5_status 17 = .ok (.ifCond .lt 10, 3) := by decide +kernel
theorem dX5_status_20 : decode cX5_status 20 = .ok (.aload_n 0, 1) := by decide +kernel
theorem dX5_status_21 : decode cX5_status 21 = .ok (.getfield 35, 3) := by decide +kernel
theorem dX5_status_24 : decode cX5_status 24 = .ok (.iload_n 1, 1) := by decide +kernel
theorem dX5_status_25 : decode cX5_status 25 = .ok (.iaload, 1) := by decide +kernel
theorem dX5_status_26 : decode cX5_status 26 = .ok (.ireturn, 1) := by decide +kernel
theorem dX5_status_27 : decode cX5_status 27 = .ok (.iconst 0, 1) := by decide +kernel
theorem dX5_status_28 : decode cX5_status 28 = .ok (.istore_n 2, 1) := by decide +kernel
theorem dX5_status_29 : decode cX5_status 29 = .ok (.iconst 0, 1) := by decide +kernel
theorem dX5_status_30 : decode cX5_status 30 = .ok (.istore_n 3, 1) := by decide +kernel
theorem dX5_status_31 : decode cX5_status 31 = .ok (.iload_n 3, 1) := by decide +kernel
theorem dX5_status_32 : decode cX5_status 32 = .ok (.bipush 7, 2) := by decide +kernel
theorem dX5_status_34 : decode cX5_status 34 = .ok (.if_icmp .ge 18, 3) := by decide +kernel
theorem dX5_status_37 : decode cX5_status 37 = .ok (.iload_n 2, 1) := by decide +kernel
theorem dX5_status_38 : decode cX5_status 38 = .ok (.aload_n 0, 1) := by decide +kernel
theorem dX5_status_39 : decode cX5_status 39 = .ok (.getfield 35, 3) := by decide +kernel
theorem dX5_status_42 : decode cX5_status 42 = .ok (.iload_n 3, 1) := by decide +kernel
theorem dX5_status_43 : decode cX5_status 43 = .ok (.iaload, 1) := by decide +kernel
theorem dX5_status_44 : decode cX5_status 44 = .ok (.iadd, 1) := by decide +kernel
theorem dX5_status_45 : decode cX5_status 45 = .ok (.istore_n 2, 1) := by decide +kernel
theorem dX5_status_46 : decode cX5_status 46 = .ok (.iinc 3 1, 3) := by decide +kernel
theorem dX5_status_49 : decode cX5_status 49 = .ok (.goto (-18), 3) := by decide +kernel
theorem dX5_status_52 : decode cX5_status 52 = .ok (.iload_n 2, 1) := by decide +kernel
theorem dX5_status_53 : decode cX5_status 53 = .ok (.ireturn, 1) := by decide +kernel
theorem dX5_tell_0 : decode cX5_tell 0 = .ok (.aload_n 0, 1) := by decide +kernel
theorem dX5_tell_1 : decode cX5_tell 1 = .ok (.getfield 35, 3) := by decide +kernel
theorem dX5_tell_4 : decode cX5_tell 4 = .ok (.iload_n 1, 1) := by decide +kernel
theorem dX5_tell_5 : decode cX5_tell 5 = .ok (.dup2, 1) := by decide +kernel
theorem dX5_tell_6 : decode cX5_tell 6 = .ok (.iaload, 1) := by decide +kernel
theorem dX5_tell_7 : decode cX5_tell 7 = .ok (.iconst 1, 1) := by decide +kernel
theorem dX5_tell_8 : decode cX5_tell 8 = .ok (.iadd, 1) := by decide +kernel
theorem dX5_tell_9 : decode cX5_tell 9 = .ok (.iastore, 1) := by decide +kernel
theorem dX5_tell_10 : decode cX5_tell 10 = .ok (.ldc 218, 2) := by decide +kernel
theorem dX5_tell_12 : decode cX5_tell 12 = .ok (.iload_n 1, 1) := by decide +kernel
theorem dX5_tell_13 : decode cX5_tell 13 = .ok (.isub, 1) := by decide +kernel
theorem dX5_tell_14 : decode cX5_tell 14 = .ok (.ireturn, 1) := by decide +kernel
theorem dX5_within_0 : decode cX5_within 0 = .ok (.iload_n 0, 1) := by decide +kernel
theorem dX5_within_1 : decode cX5_within 1 = .ok (.iload_n 1, 1) := by decide +kernel
theorem dX5_within_2 : decode cX5_within 2 = .ok (.if_icmp .lt 12, 3) := by decide +kernel
theorem dX5_within_5 : decode cX5_within 5 = .ok (.iload_n 0, 1) := by decide +kernel
theorem dX5_within_6 : decode cX5_within 6 = .ok (.iload_n 2, 1) := by decide +kernel
theorem dX5_within_7 : decode cX5_within 7 = .ok (.if_icmp .gt 7, 3) := by decide +kernel
theorem dX5_within_10 : decode cX5_within 10 = .ok (.iconst 1, 1) := by decide +kernel
theorem dX5_within_11 : decode cX5_within 11 = .ok (.goto 4, 3) := by decide +kernel
theorem dX5_within_14 : decode cX5_within 14 = .ok (.iconst 0, 1) := by decide +kernel
theorem dX5_within_15 : decode cX5_within 15 = .ok (.ireturn, 1) := by decide +kernel
theorem dX5_isForetold_0 : decode cX5_isForetold 0 = .ok (.iload_n 0, 1) := by decide +kernel
theorem dX5_isForetold_1 : decode cX5_isForetold 1 = .ok (.iconst 3, 1) := by decide +kernel
theorem dX5_isForetold_2 : decode cX5_isForetold 2 = .ok (.if_icmp .eq 19, 3) := by decide +kernel
theorem dX5_isForetold_5 : decode cX5_isForetold 5 = .ok (.iload_n 0, 1) := by decide +kernel
theorem dX5_isForetold_6 : decode cX5_isForetold 6 = .ok (.iconst 4, 1) := by decide +kernel
theorem dX5_isForetold_7 : decode cX5_isForetold 7 = .ok (.if_icmp .eq 14, 3) := by decide +kernel
theorem dX5_isForetold_10 : decode cX5_isForetold 10 = .ok (.iload_n 0, 1) := by decide +kernel
theorem dX5_isForetold_11 : decode cX5_isForetold 11 = .ok (.bipush 7, 2) := by decide +kernel
theorem dX5_isForetold_13 : decode cX5_isForetold 13 = .ok (.bipush 10, 2) := by decide +kernel
theorem dX5_isForetold_15 : decode cX5_isForetold 15 = .ok (.invokestatic 46, 3) := by decide +kernel
theorem dX5_isForetold_18 : decode cX5_isForetold 18 = .ok (.ifCond .eq 7, 3) := by decide +kernel
theorem dX5_isForetold_21 : decode cX5_isForetold 21 = .ok (.iconst 1, 1) := by decide +kernel
theorem dX5_isForetold_22 : decode cX5_isForetold 22 = .ok (.goto 4, 3) := by decide +kernel
theorem dX5_isForetold_25 : decode cX5_isForetold 25 = .ok (.iconst 0, 1) := by decide +kernel
theorem dX5_isForetold_26 : decode cX5_isForetold 26 = .ok (.ireturn, 1) := by decide +kernel
theorem dX5_daysTillAllSing_0 : decode cX5_daysTillAllSing 0 = .ok (.aload_n 0, 1) := by decide +kernel
theorem dX5_daysTillAllSing_1 : decode cX5_daysTillAllSing 1 = .ok (.getfield 16, 3) := by decide +kernel
theorem dX5_daysTillAllSing_4 : decode cX5_daysTillAllSing 4 = .ok (.aload_n 0, 1) := by decide +kernel
theorem dX5_daysTillAllSing_5 : decode cX5_daysTillAllSing 5 = .ok (.getfield 10, 3) := by decide +kernel
theorem dX5_daysTillAllSing_8 : decode cX5_daysTillAllSing 8 = .ok (.invokevirtual 115, 3) := by decide +kernel
theorem dX5_daysTillAllSing_11 : decode cX5_daysTillAllSing 11 = .ok (.iconst 0, 1) := by decide +kernel
theorem dX5_daysTillAllSing_12 : decode cX5_daysTillAllSing 12 = .ok (.istore_n 2, 1) := by decide +kernel
theorem dX5_daysTillAllSing_13 : decode cX5_daysTillAllSing 13 = .ok (.iload_n 2, 1) := by decide +kernel
theorem dX5_daysTillAllSing_14 : decode cX5_daysTillAllSing 14 = .ok (.sipush 400, 3) := by decide +kernel
theorem dX5_daysTillAllSing_17 : decode cX5_daysTillAllSing 17 = .ok (.if_icmp .gt 32, 3) := by decide +kernel
theorem dX5_daysTillAllSing_20 : decode cX5_daysTillAllSing 20 = .ok (.aload_n 0, 1) := by decide +kernel
theorem dX5_daysTillAllSing_21 : decode cX5_daysTillAllSing 21 = .ok (.getfield 16, 3) := by decide +kernel
theorem dX5_daysTillAllSing_24 : decode cX5_daysTillAllSing 24 = .ok (.invokevirtual 89, 3) := by decide +kernel
theorem dX5_daysTillAllSing_27 : decode cX5_daysTillAllSing 27 = .ok (.iload_n 1, 1) := by decide +kernel
theorem dX5_daysTillAllSing_28 : decode cX5_daysTillAllSing 28 = .ok (.iand, 1) := by decide +kernel
theorem dX5_daysTillAllSing_29 : decode cX5_daysTillAllSing 29 = .ok (.iload_n 1, 1) := by decide +kernel
theorem dX5_daysTillAllSing_30 : decode cX5_daysTillAllSing 30 = .ok (.if_icmp .ne 5, 3) := by decide +kernel
theorem dX5_daysTillAllSing_33 : decode cX5_daysTillAllSing 33 = .ok (.iload_n 2, 1) := by decide +kernel
theorem dX5_daysTillAllSing_34 : decode cX5_daysTillAllSing 34 = .ok (.ireturn, 1) := by decide +kernel
theorem dX5_daysTillAllSing_35 : decode cX5_daysTillAllSing 35 = .ok (.aload_n 0, 1) := by decide +kernel
theorem dX5_daysTillAllSing_36 : decode cX5_daysTillAllSing 36 = .ok (.getfield 16, 3) := by decide +kernel
theorem dX5_daysTillAllSing_39 : decode cX5_daysTillAllSing 39 = .ok (.iconst 1, 1) := by decide +kernel
theorem dX5_daysTillAllSing_40 : decode cX5_daysTillAllSing 40 = .ok (.invokevirtual 86, 3) := by decide +kernel
theorem dX5_daysTillAllSing_43 : decode cX5_daysTillAllSing 43 = .ok (.iinc 2 1, 3) := by decide +kernel
theorem dX5_daysTillAllSing_46 : decode cX5_daysTillAllSing 46 = .ok (.goto (-33), 3) := by decide +kernel
theorem dX5_daysTillAllSing_49 : decode cX5_daysTillAllSing 49 = .ok (.aload_n 0, 1) := by decide +kernel
theorem dX5_daysTillAllSing_50 : decode cX5_daysTillAllSing 50 = .ok (.iconst 3, 1) := by decide +kernel
theorem dX5_daysTillAllSing_51 : decode cX5_daysTillAllSing 51 = .ok (.invokevirtual 50, 3) := by decide +kernel
theorem dX5_daysTillAllSing_54 : decode cX5_daysTillAllSing 54 = .ok (.ireturn, 1) := by decide +kernel
theorem dX5_tryOut_0 : decode cX5_tryOut 0 = .ok (.aload_n 0, 1) := by decide +kernel
theorem dX5_tryOut_1 : decode cX5_tryOut 1 = .ok (.getfield 16, 3) := by decide +kernel
theorem dX5_tryOut_4 : decode cX5_tryOut 4 = .ok (.aload_n 0, 1) := by decide +kernel
theorem dX5_tryOut_5 : decode cX5_tryOut 5 = .ok (.getfield 10, 3) := by decide +kernel
theorem dX5_tryOut_8 : decode cX5_tryOut 8 = .ok (.invokevirtual 115, 3) := by decide +kernel
theorem dX5_tryOut_11 : decode cX5_tryOut 11 = .ok (.aload_n 0, 1) := by decide +kernel
theorem dX5_tryOut_12 : decode cX5_tryOut 12 = .ok (.getfield 16, 3) := by decide +kernel
theorem dX5_tryOut_15 : decode cX5_tryOut 15 = .ok (.iload_n 1, 1) := by decide +kernel
theorem dX5_tryOut_16 : decode cX5_tryOut 16 = .ok (.iload_n 2, 1) := by decide +kernel
theorem dX5_tryOut_17 : decode cX5_tryOut 17 = .ok (.iload_n 3, 1) := by decide +kernel
theorem dX5_tryOut_18 : decode cX5_tryOut 18 = .ok (.invokevirtual 72, 3) := by decide +kernel
theorem dX5_tryOut_21 : decode cX5_tryOut 21 = .ok (.aload_n 0, 1) := by decide +kernel
theorem dX5_tryOut_22 : decode cX5_tryOut 22 = .ok (.getfield 16, 3) := by decide +kernel
theorem dX5_tryOut_25 : decode cX5_tryOut 25 = .ok (.iload 4, 2) := by decide +kernel
theorem dX5_tryOut_27 : decode cX5_tryOut 27 = .ok (.invokevirtual 86, 3) := by decide +kernel
theorem dX5_tryOut_30 : decode cX5_tryOut 30 = .ok (.return_, 1) := by decide +kernel
theorem dX5_isStillWithout_0 : decode cX5_isStillWithout 0 = .ok (.aload_n 0, 1) := by decide +kernel
theorem dX5_isStillWithout_1 : decode cX5_isStillWithout 1 = .ok (.getfield 16, 3) := by decide +kernel
theorem dX5_isStillWithout_4 : decode cX5_isStillWithout 4 = .ok (.aload_n 0, 1) := by decide +kernel
theorem dX5_isStillWithout_5 : decode cX5_isStillWithout 5 = .ok (.getfield 10, 3) := by decide +kernel
theorem dX5_isStillWithout_8 : decode cX5_isStillWithout 8 = .ok (.invokevirtual 115, 3) := by decide +kernel
theorem dX5_isStillWithout_11 : decode cX5_isStillWithout 11 = .ok (.aload_n 0, 1) := by decide +kernel
theorem dX5_isStillWithout_12 : decode cX5_isStillWithout 12 = .ok (.getfield 16, 3) := by decide +kernel
theorem dX5_isStillWithout_15 : decode cX5_isStillWithout 15 = .ok (.iload_n 1, 1) := by decide +kernel
theorem dX5_isStillWithout_16 : decode cX5_isStillWithout 16 = .ok (.invokevirtual 219, 3) := by decide +kernel
theorem dX5_isStillWithout_19 : decode cX5_isStillWithout 19 = .ok (.iconst 0, 1) := by decide +kernel
theorem dX5_isStillWithout_20 : decode cX5_isStillWithout 20 = .ok (.istore_n 3, 1) := by decide +kernel
theorem dX5_isStillWithout_21 : decode cX5_isStillWithout 21 = .ok (.iload_n 3, 1) := by decide +kernel
theorem dX5_isStillWithout_22 : decode cX5_isStillWithout 22 = .ok (.iload_n 2, 1) := by decide +kernel
theorem dX5_isStillWithout_23 : decode cX5_isStillWithout 23 = .ok (.if_icmp .ge 29, 3) := by decide +kernel
theorem dX5_isStillWithout_26 : decode cX5_isStillWithout 26 = .ok (.aload_n 0, 1) := by decide +kernel
theorem dX5_isStillWithout_27 : decode cX5_isStillWithout 27 = .ok (.getfield 16, 3) := by decide +kernel
theorem dX5_isStillWithout_30 : decode cX5_isStillWithout 30 = .ok (.iconst 1, 1) := by decide +kernel
theorem dX5_isStillWithout_31 : decode cX5_isStillWithout 31 = .ok (.invokevirtual 86, 3) := by decide +kernel
theorem dX5_isStillWithout_34 : decode cX5_isStillWithout 34 = .ok (.aload_n 0, 1) := by decide +kernel
theorem dX5_isStillWithout_35 : decode cX5_isStillWithout 35 = .ok (.getfield 16, 3) := by decide +kernel
theorem dX5_isStillWithout_38 : decode cX5_isStillWithout 38 = .ok (.getfield 100, 3) := by decide +kernel
theorem dX5_isStillWithout_41 : decode cX5_isStillWithout 41 = .ok (.ifCond .ne 5, 3) := by decide +kernel
theorem dX5_isStillWithout_44 : decode cX5_isStillWithout 44 = .ok (.iconst 0, 1) := by decide +kernel
theorem dX5_isStillWithout_45 : decode cX5_isStillWithout 45 = .ok (.ireturn, 1) := by decide +kernel
theorem dX5_isStillWithout_46 : decode cX5_isStillWithout 46 = .ok (.iinc 3 1, 3) := by decide +kernel
theorem dX5_isStillWithout_49 : decode cX5_isStillWithout 49 = .ok (.goto (-28), 3) := by decide +kernel
theorem dX5_isStillWithout_52 : decode cX5_isStillWithout 52 = .ok (.aload_n 0, 1) := by decide +kernel
theorem dX5_isStillWithout_53 : decode cX5_isStillWithout 53 = .ok (.getfield 16, 3) := by decide +kernel
theorem dX5_isStillWithout_56 : decode cX5_isStillWithout 56 = .ok (.getfield 100, 3) := by decide +kernel
theorem dX5_isStillWithout_59 : decode cX5_isStillWithout 59 = .ok (.iload_n 2, 1) := by decide +kernel
theorem dX5_isStillWithout_60 : decode cX5_isStillWithout 60 = .ok (.if_icmp .lt 7, 3) := by decide +kernel
theorem dX5_isStillWithout_63 : decode cX5_isStillWithout 63 = .ok (.iconst 1, 1) := by decide +kernel
theorem dX5_isStillWithout_64 : decode cX5_isStillWithout 64 = .ok (.goto 4, 3) := by decide +kernel
theorem dX5_isStillWithout_67 : decode cX5_isStillWithout 67 = .ok (.iconst 0, 1) := by decide +kernel
theorem dX5_isStillWithout_68 : decode cX5_isStillWithout 68 = .ok (.ireturn, 1) := by decide +kernel
theorem dX5_isAsTold_0 : decode cX5_isAsTold 0 = .ok (.aload_n 0, 1) := by decide +kernel
theorem dX5_isAsTold_1 : decode cX5_isAsTold 1 = .ok (.getfield 16, 3) := by decide +kernel
theorem dX5_isAsTold_4 : decode cX5_isAsTold 4 = .ok (.aload_n 0, 1) := by decide +kernel
theorem dX5_isAsTold_5 : decode cX5_isAsTold 5 = .ok (.getfield 10, 3) := by decide +kernel
theorem dX5_isAsTold_8 : decode cX5_isAsTold 8 = .ok (.invokevirtual 115, 3) := by decide +kernel
theorem dX5_isAsTold_11 : decode cX5_isAsTold 11 = .ok (.aload_n 0, 1) := by decide +kernel
theorem dX5_isAsTold_12 : decode cX5_isAsTold 12 = .ok (.getfield 16, 3) := by decide +kernel
theorem dX5_isAsTold_15 : decode cX5_isAsTold 15 = .ok (.iload_n 2, 1) := by decide +kernel
theorem dX5_isAsTold_16 : decode cX5_isAsTold 16 = .ok (.iload_n 3, 1) := by decide +kernel
theorem dX5_isAsTold_17 : decode cX5_isAsTold 17 = .ok (.iload 4, 2) := by decide +kernel
theorem dX5_isAsTold_19 : decode cX5_isAsTold 19 = .ok (.invokevirtual 72, 3) := by decide +kernel
theorem dX5_isAsTold_22 : decode cX5_isAsTold 22 = .ok (.iconst 0, 1) := by decide +kernel
theorem dX5_isAsTold_23 : decode cX5_isAsTold 23 = .ok (.istore 5, 2) := by decide +kernel
theorem dX5_isAsTold_25 : decode cX5_isAsTold 25 = .ok (.iload 5, 2) := by decide +kernel
theorem dX5_isAsTold_27 : decode cX5_isAsTold 27 = .ok (.aload_n 1, 1) := by decide +kernel
theorem dX5_isAsTold_28 : decode cX5_isAsTold 28 = .ok (.getfield 194, 3) := by decide +kernel
theorem dX5_isAsTold_31 : decode cX5_isAsTold 31 = .ok (.if_icmp .ge 54, 3) := by decide +kernel
theorem dX5_isAsTold_34 : decode cX5_isAsTold 34 = .ok (.iload 5, 2) := by decide +kernel
theorem dX5_isAsTold_36 : decode cX5_isAsTold 36 = .ok (.ifCond .le 11, 3) := by decide +kernel
theorem dX5_isAsTold_39 : decode cX5_isAsTold 39 = .ok (.aload_n 0, 1) := by decide +kernel
theorem dX5_isAsTold_40 : decode cX5_isAsTold 40 = .ok (.getfield 16, 3) := by decide +kernel
theorem dX5_isAsTold_43 : decode cX5_isAsTold 43 = .ok (.iconst 1, 1) := by decide +kernel
theorem dX5_isAsTold_44 : decode cX5_isAsTold 44 = .ok (.invokevirtual 86, 3) := by decide +kernel
theorem dX5_isAsTold_47 : decode cX5_isAsTold 47 = .ok (.aload_n 1, 1) := by decide +kernel
theorem dX5_isAsTold_48 : decode cX5_isAsTold 48 = .ok (.getfield 206, 3) := by decide +kernel
theorem dX5_isAsTold_51 : decode cX5_isAsTold 51 = .ok (.iload 5, 2) := by decide +kernel
theorem dX5_isAsTold_53 : decode cX5_isAsTold 53 = .ok (.iaload, 1) := by decide +kernel
theorem dX5_isAsTold_54 : decode cX5_isAsTold 54 = .ok (.istore 6, 2) := by decide +kernel
theorem dX5_isAsTold_56 : decode cX5_isAsTold 56 = .ok (.iload 6, 2) := by decide +kernel
theorem dX5_isAsTold_58 : decode cX5_isAsTold 58 = .ok (.iconst (-1), 1) := by decide +kernel
theorem dX5_isAsTold_59 : decode cX5_isAsTold 59 = .ok (.if_icmp .eq 20, 3) := by decide +kernel
theorem dX5_isAsTold_62 : decode cX5_isAsTold 62 = .ok (.iload 6, 2) := by decide +kernel
theorem dX5_isAsTold_64 : decode cX5_isAsTold 64 = .ok (.aload_n 0, 1) := by decide +kernel
theorem dX5_isAsTold_65 : decode cX5_isAsTold 65 = .ok (.getfield 16, 3) := by decide +kernel
theorem dX5_isAsTold_68 : decode cX5_isAsTold 68 = .ok (.iload_n 2, 1) := by decide +kernel
theorem dX5_isAsTold_69 : decode cX5_isAsTold 69 = .ok (.bipush 7, 2) := by decide +kernel
theorem dX5_isAsTold_71 : decode cX5_isAsTold 71 = .ok (.invokevirtual 66, 3) := by decide +kernel
theorem dX5_isAsTold_74 : decode cX5_isAsTold 74 = .ok (.if_icmp .eq 5, 3) := by decide +kernel
theorem dX5_isAsTold_77 : decode cX5_isAsTold 77 = .ok (.iconst 0, 1) := by decide +kernel
theorem dX5_isAsTold_78 : decode cX5_isAsTold 78 = .ok (.ireturn, 1) := by decide +kernel
theorem dX5_isAsTold_79 : decode cX5_isAsTold 79 = .ok (.iinc 5 1, 3) := by decide +kernel
theorem dX5_isAsTold_82 : decode cX5_isAsTold 82 = .ok (.goto (-57), 3) := by decide +kernel
theorem dX5_isAsTold_85 : decode cX5_isAsTold 85 = .ok (.iconst 1, 1) := by decide +kernel
theorem dX5_isAsTold_86 : decode cX5_isAsTold 86 = .ok (.ireturn, 1) := by decide +kernel
theorem dX5_isSheet_0 : decode cX5_isSheet 0 = .ok (.iload_n 0, 1) := by decide +kernel
theorem dX5_isSheet_1 : decode cX5_isSheet 1 = .ok (.iconst 0, 1) := by decide +kernel
theorem dX5_isSheet_2 : decode cX5_isSheet 2 = .ok (.iconst 3, 1) := by decide +kernel
theorem dX5_isSheet_3 : decode cX5_isSheet 3 = .ok (.invokestatic 46, 3) := by decide +kernel
theorem dX5_isSheet_6 : decode cX5_isSheet 6 = .ok (.ireturn, 1) := by decide +kernel
theorem dX5_faultOfSheet_0 : decode cX5_faultOfSheet 0 = .ok (.iload_n 1, 1) := by decide +kernel
theorem dX5_faultOfSheet_1 : decode cX5_faultOfSheet 1 = .ok (.invokestatic 187, 3) := by decide +kernel
theorem dX5_faultOfSheet_4 : decode cX5_faultOfSheet 4 = .ok (.ifCond .ne 5, 3) := by decide +kernel
theorem dX5_faultOfSheet_7 : decode cX5_faultOfSheet 7 = .ok (.iconst 0, 1) := by decide +kernel
theorem dX5_faultOfSheet_8 : decode cX5_faultOfSheet 8 = .ok (.ireturn, 1) := by decide +kernel
theorem dX5_faultOfSheet_9 : decode cX5_faultOfSheet 9 = .ok (.aload_n 0, 1) := by decide +kernel
theorem dX5_faultOfSheet_10 : decode cX5_faultOfSheet 10 = .ok (.getfield 31, 3) := by decide +kernel
theorem dX5_faultOfSheet_13 : decode cX5_faultOfSheet 13 = .ok (.iload_n 1, 1) := by decide +kernel
theorem dX5_faultOfSheet_14 : decode cX5_faultOfSheet 14 = .ok (.aaload, 1) := by decide +kernel
theorem dX5_faultOfSheet_15 : decode cX5_faultOfSheet 15 = .ok (.getfield 200, 3) := by decide +kernel
theorem dX5_faultOfSheet_18 : decode cX5_faultOfSheet 18 = .ok (.ifCond .ne 7, 3) := by decide +kernel
theorem dX5_faultOfSheet_21 : decode cX5_faultOfSheet 21 = .ok (.iconst 5, 1) := by decide +kernel
theorem dX5_faultOfSheet_22 : decode cX5_faultOfSheet 22 = .ok (.goto 4, 3) := by decide +kernel
theorem dX5_faultOfSheet_25 : decode cX5_faultOfSheet 25 = .ok (.iconst (-1), 1) := by decide +kernel
theorem dX5_faultOfSheet_26 : decode cX5_faultOfSheet 26 = .ok (.ireturn, 1) := by decide +kernel
theorem dX5_faultOfTold_0 : decode cX5_faultOfTold 0 = .ok (.aload_n 0, 1) := by decide +kernel
theorem dX5_faultOfTold_1 : decode cX5_faultOfTold 1 = .ok (.iload_n 1, 1) := by decide +kernel
theorem dX5_faultOfTold_2 : decode cX5_faultOfTold 2 = .ok (.invokevirtual 195, 3) := by decide +kernel
theorem dX5_faultOfTold_5 : decode cX5_faultOfTold 5 = .ok (.istore_n 3, 1) := by decide +kernel
theorem dX5_faultOfTold_6 : decode cX5_faultOfTold 6 = .ok (.iload_n 3, 1) := by decide +kernel
theorem dX5_faultOfTold_7 : decode cX5_faultOfTold 7 = .ok (.iconst (-1), 1) := by decide +kernel
theorem dX5_faultOfTold_8 : decode cX5_faultOfTold 8 = .ok (.if_icmp .eq 5, 3) := by decide +kernel
theorem dX5_faultOfTold_11 : decode cX5_faultOfTold 11 = .ok (.iload_n 3, 1) := by decide +kernel
theorem dX5_faultOfTold_12 : decode cX5_faultOfTold 12 = .ok (.ireturn, 1) := by decide +kernel
theorem dX5_faultOfTold_13 : decode cX5_faultOfTold 13 = .ok (.aload_n 0, 1) := by decide +kernel
theorem dX5_faultOfTold_14 : decode cX5_faultOfTold 14 = .ok (.getfield 10, 3) := by decide +kernel
theorem dX5_faultOfTold_17 : decode cX5_faultOfTold 17 = .ok (.iload_n 2, 1) := by decide +kernel
theorem dX5_faultOfTold_18 : decode cX5_faultOfTold 18 = .ok (.invokevirtual 62, 3) := by decide +kernel
theorem dX5_faultOfTold_21 : decode cX5_faultOfTold 21 = .ok (.ifCond .eq 7, 3) := by decide +kernel
theorem dX5_faultOfTold_24 : decode cX5_faultOfTold 24 = .ok (.iconst (-1), 1) := by decide +kernel
theorem dX5_faultOfTold_25 : decode cX5_faultOfTold 25 = .ok (.goto 4, 3) := by decide +kernel
theorem dX5_faultOfTold_28 : decode cX5_faultOfTold 28 = .ok (.iconst 0, 1) := by decide +kernel
theorem dX5_faultOfTold_29 : decode cX5_faultOfTold 29 = .ok (.ireturn, 1) := by decide +kernel
theorem dX5_greatestSharedWithYear_0 : decode cX5_greatestSharedWithYear 0 = .ok (.bipush 60, 2) := by decide +kernel
theorem dX5_greatestSharedWithYear_2 : decode cX5_greatestSharedWithYear 2 = .ok (.istore_n 1, 1) := by decide +kernel
theorem dX5_greatestSharedWithYear_3 : decode cX5_greatestSharedWithYear 3 = .ok (.iload_n 1, 1) := by decide +kernel
theorem dX5_greatestSharedWithYear_4 : decode cX5_greatestSharedWithYear 4 = .ok (.iconst 1, 1) := by decide +kernel
theorem dX5_greatestSharedWithYear_5 : decode cX5_greatestSharedWithYear 5 = .ok (.if_icmp .le 24, 3) := by decide +kernel
theorem dX5_greatestSharedWithYear_8 : decode cX5_greatestSharedWithYear 8 = .ok (.iload_n 0, 1) := by decide +kernel
theorem dX5_greatestSharedWithYear_9 : decode cX5_greatestSharedWithYear 9 = .ok (.iload_n 1, 1) := by decide +kernel
theorem dX5_greatestSharedWithYear_10 : decode cX5_greatestSharedWithYear 10 = .ok (.irem, 1) := by decide +kernel
theorem dX5_greatestSharedWithYear_11 : decode cX5_greatestSharedWithYear 11 = .ok (.ifCond .ne 12, 3) := by decide +kernel
theorem dX5_greatestSharedWithYear_14 : decode cX5_greatestSharedWithYear 14 = .ok (.bipush 60, 2) := by decide +kernel
theorem dX5_greatestSharedWithYear_16 : decode cX5_greatestSharedWithYear 16 = .ok (.iload_n 1, 1) := by decide +kernel
theorem dX5_greatestSharedWithYear_17 : decode cX5_greatestSharedWithYear 17 = .ok (.irem, 1) := by decide +kernel
theorem dX5_greatestSharedWithYear_18 : decode cX5_greatestSharedWithYear 18 = .ok (.ifCond .ne 5, 3) := by decide +kernel
theorem dX5_greatestSharedWithYear_21 : decode cX5_greatestSharedWithYear 21 = .ok (.iload_n 1, 1) := by decide +kernel
theorem dX5_greatestSharedWithYear_22 : decode cX5_greatestSharedWithYear 22 = .ok (.ireturn, 1) := by decide +kernel
theorem dX5_greatestSharedWithYear_23 : decode cX5_greatestSharedWithYear 23 = .ok (.iinc 1 (-1), 3) := by decide +kernel
theorem dX5_greatestSharedWithYear_26 : decode cX5_greatestSharedWithYear 26 = .ok (.goto (-23), 3) := by decide +kernel
theorem dX5_greatestSharedWithYear_29 : decode cX5_greatestSharedWithYear 29 = .ok (.iconst 1, 1) := by decide +kernel
theorem dX5_greatestSharedWithYear_30 : decode cX5_greatestSharedWithYear 30 = .ok (.ireturn, 1) := by decide +kernel
theorem dX6_init_0 : decode cX6_init 0 = .ok (.aload_n 0, 1) := by decide +kernel
theorem dX6_init_1 : decode cX6_init 1 = .ok (.invokespecial 1, 3) := by decide +kernel
theorem dX6_init_4 : decode cX6_init 4 = .ok (.aload_n 0, 1) := by decide +kernel
theorem dX6_init_5 : decode cX6_init 5 = .ok (.bipush 94, 2) := by decide +kernel
theorem dX6_init_7 : decode cX6_init 7 = .ok (.newarray .int, 2) := by decide +kernel
theorem dX6_init_9 : decode cX6_init 9 = .ok (.putfield 9, 3) := by decide +kernel
theorem dX6_init_12 : decode cX6_init 12 = .ok (.aload_n 0, 1) := by decide +kernel
theorem dX6_init_13 : decode cX6_init 13 = .ok (.bipush 94, 2) := by decide +kernel
theorem dX6_init_15 : decode cX6_init 15 = .ok (.newarray .int, 2) := by decide +kernel
theorem dX6_init_17 : decode cX6_init 17 = .ok (.putfield 13, 3) := by decide +kernel
theorem dX6_init_20 : decode cX6_init 20 = .ok (.aload_n 0, 1) := by decide +kernel
theorem dX6_init_21 : decode cX6_init 21 = .ok (.bipush 94, 2) := by decide +kernel
theorem dX6_init_23 : decode cX6_init 23 = .ok (.newarray .int, 2) := by decide +kernel
theorem dX6_init_25 : decode cX6_init 25 = .ok (.putfield 16, 3) := by decide +kernel
theorem dX6_init_28 : decode cX6_init 28 = .ok (.aload_n 0, 1) := by decide +kernel
theorem dX6_init_29 : decode cX6_init 29 = .ok (.bipush 8, 2) := by decide +kernel
theorem dX6_init_31 : decode cX6_init 31 = .ok (.newarray .int, 2) := by decide +kernel
theorem dX6_init_33 : decode cX6_init 33 = .ok (.putfield 19, 3) := by decide +kernel
theorem dX6_init_36 : decode cX6_init 36 = .ok (.aload_n 0, 1) := by decide +kernel
theorem dX6_init_37 : decode cX6_init 37 = .ok (.bipush 8, 2) := by decide +kernel
theorem dX6_init_39 : decode cX6_init 39 = .ok (.newarray .int, 2) := by decide +kernel
theorem dX6_init_41 : decode cX6_init 41 = .ok (.putfield 22, 3) := by decide +kernel
theorem dX6_init_44 : decode cX6_init 44 = .ok (.aload_n 0, 1) := by decide +kernel
theorem dX6_init_45 : decode cX6_init 45 = .ok (.bipush 120, 2) := by decide +kernel
theorem dX6_init_47 : decode cX6_init 47 = .ok (.newarray .int, 2) := by decide +kernel
theorem dX6_init_49 : decode cX6_init 49 = .ok (.putfield 25, 3) := by decide +kernel
theorem dX6_init_52 : decode cX6_init 52 = .ok (.aload_n 0, 1) := by decide +kernel
theorem dX6_init_53 : decode cX6_init 53 = .ok (.bipush 7, 2) := by decide +kernel
theorem dX6_init_55 : decode cX6_init 55 = .ok (.anewarray 28, 3) := by decide +kernel
theorem dX6_init_58 : decode cX6_init 58 = .ok (.dup, 1) := by decide +kernel
theorem dX6_init_59 : decode cX6_init 59 = .ok (.iconst 0, 1) := by decide +kernel
theorem dX6_init_60 : decode cX6_init 60 = .ok (.ldc 30, 2) := by decide +kernel
theorem dX6_init_62 : decode cX6_init 62 = .ok (.aastore, 1) := by decide +kernel
theorem dX6_init_63 : decode cX6_init 63 = .ok (.dup, 1) := by decide +kernel
theorem dX6_init_64 : decode cX6_init 64 = .ok (.iconst 1, 1) := by decide +kernel
theorem dX6_init_65 : decode cX6_init 65 = .ok (.ldc 32, 2) := by decide +kernel
theorem dX6_init_67 : decode cX6_init 67 = .ok (.aastore, 1) := by decide +kernel
theorem dX6_init_68 : decode cX6_init 68 = .ok (.dup, 1) := by decide +kernel
theorem dX6_init_69 : decode cX6_init 69 = .ok (.iconst 2, 1) := by decide +kernel
theorem dX6_init_70 : decode cX6_init 70 = .ok (.ldc 34, 2) := by decide +kernel
theorem dX6_init_72 : decode cX6_init 72 = .ok (.aastore, 1) := by decide +kernel
theorem dX6_init_73 : decode cX6_init 73 = .ok (.dup, 1) := by decide +kernel
theorem dX6_init_74 : decode cX6_init 74 = .ok (.iconst 3, 1) := by decide +kernel
theorem dX6_init_75 : decode cX6_init 75 = .ok (.ldc 36, 2) := by decide +kernel
theorem dX6_init_77 : decode cX6_init 77 = .ok (.aastore, 1) := by decide +kernel
theorem dX6_init_78 : decode cX6_init 78 = .ok (.dup, 1) := by decide +kernel
theorem dX6_init_79 : decode cX6_init 79 = .ok (.iconst 4, 1) := by decide +kernel
theorem dX6_init_80 : decode cX6_init 80 = .ok (.ldc 38, 2) := by decide +kernel
theorem dX6_init_82 : decode cX6_init 82 = .ok (.aastore, 1) := by decide +kernel
theorem dX6_init_83 : decode cX6_init 83 = .ok (.dup, 1) := by decide +kernel
theorem dX6_init_84 : decode cX6_init 84 = .ok (.iconst 5, 1) := by decide +kernel
theorem dX6_init_85 : decode cX6_init 85 = .ok (.ldc 40, 2) := by decide +kernel
theorem dX6_init_87 : decode cX6_init 87 = .ok (.aastore, 1) := by decide +kernel
theorem dX6_init_88 : decode cX6_init 88 = .ok (.dup, 1) := by decide +kernel
theorem dX6_init_89 : decode cX6_init 89 = .ok (.bipush 6, 2) := by decide +kernel
theorem dX6_init_91 : decode cX6_init 91 = .ok (.ldc 42, 2) := by decide +kernel
theorem dX6_init_93 : decode cX6_init 93 = .ok (.aastore, 1) := by decide +kernel
theorem dX6_init_94 : decode cX6_init 94 = .ok (.putfield 44, 3) := by decide +kernel
theorem dX6_init_97 : decode cX6_init 97 = .ok (.aload_n 0, 1) := by decide +kernel
theorem dX6_init_98 : decode cX6_init 98 = .ok (.sipush 720, 3) := by decide +kernel
theorem dX6_init_101 : decode cX6_init 101 = .ok (.newarray .int, 2) := by decide +kernel
theorem dX6_init_103 : decode cX6_init 103 = .ok (.putfield 48, 3) := by decide +kernel
theorem dX6_init_106 : decode cX6_init 106 = .ok (.aload_n 0, 1) := by decide +kernel
theorem dX6_init_107 : decode cX6_init 107 = .ok (.iconst 4, 1) := by decide +kernel
theorem dX6_init_108 : decode cX6_init 108 = .ok (.newarray .int, 2) := by decide +kernel
theorem dX6_init_110 : decode cX6_init 110 = .ok (.putfield 51, 3) := by decide +kernel
theorem dX6_init_113 : decode cX6_init 113 = .ok (.aload_n 0, 1) := by decide +kernel
theorem dX6_init_114 : decode cX6_init 114 = .ok (.iconst 4, 1) := by decide +kernel
theorem dX6_init_115 : decode cX6_init 115 = .ok (.newarray .int, 2) := by decide +kernel
theorem dX6_init_117 : decode cX6_init 117 = .ok (.putfield 54, 3) := by decide +kernel
theorem dX6_init_120 : decode cX6_init 120 = .ok (.aload_n 0, 1) := by decide +kernel
theorem dX6_init_121 : decode cX6_init 121 = .ok (.sipush 160, 3) := by decide +kernel
theorem dX6_init_124 : decode cX6_init 124 = .ok (.newarray .int, 2) := by decide +kernel
theorem dX6_init_126 : decode cX6_init 126 = .ok (.putfield 57, 3) := by decide +kernel
theorem dX6_init_129 : decode cX6_init 129 = .ok (.aload_n 0, 1) := by decide +kernel
theorem dX6_init_130 : decode cX6_init 130 = .ok (.bipush 40, 2) := by decide +kernel
theorem dX6_init_132 : decode cX6_init 132 = .ok (.newarray .int, 2) := by decide +kernel
theorem dX6_init_134 : decode cX6_init 134 = .ok (.putfield 60, 3) := by decide +kernel
theorem dX6_init_137 : decode cX6_init 137 = .ok (.aload_n 0, 1) := by decide +kernel
theorem dX6_init_138 : decode cX6_init 138 = .ok (.getfield 9, 3) := by decide +kernel
theorem dX6_init_141 : decode cX6_init 141 = .ok (.iconst 2, 1) := by decide +kernel
theorem dX6_init_142 : decode cX6_init 142 = .ok (.iconst 1, 1) := by decide +kernel
theorem dX6_init_143 : decode cX6_init 143 = .ok (.iastore, 1) := by decide +kernel
theorem dX6_init_144 : decode cX6_init 144 = .ok (.iconst 0, 1) := by decide +kernel
theorem dX6_init_145 : decode cX6_init 145 = .ok (.istore_n 1, 1) := by decide +kernel
theorem dX6_init_146 : decode cX6_init 146 = .ok (.iload_n 1, 1) := by decide +kernel
theorem dX6_init_147 : decode cX6_init 147 = .ok (.bipush 10, 2) := by decide +kernel
theorem dX6_init_149 : decode cX6_init 149 = .ok (.if_icmp .ge 18, 3) := by decide +kernel
theorem dX6_init_152 : decode cX6_init 152 = .ok (.aload_n 0, 1) := by decide +kernel
theorem dX6_init_153 : decode cX6_init 153 = .ok (.getfield 9, 3) := by decide +kernel
theorem dX6_init_156 : decode cX6_init 156 = .ok (.iconst 4, 1) := by decide +kernel
theorem dX6_init_157 : decode cX6_init 157 = .ok (.iload_n 1, 1) := by decide +kernel
theorem dX6_init_158 : decode cX6_init 158 = .ok (.iadd, 1) := by decide +kernel
theorem dX6_init_159 : decode cX6_init 159 = .ok (.iconst (-1), 1) := by decide +kernel
theorem dX6_init_160 : decode cX6_init 160 = .ok (.iastore, 1) := by decide +kernel
theorem dX6_init_161 : decode cX6_init 161 = .ok (.iinc 1 1, 3) := by decide +kernel
theorem dX6_init_164 : decode cX6_init 164 = .ok (.goto (-18), 3) := by decide +kernel
theorem dX6_init_167 : decode cX6_init 167 = .ok (.return_, 1) := by decide +kernel
theorem dX6_finding_0 : decode cX6_finding 0 = .ok (.aload_n 0, 1) := by decide +kernel
theorem dX6_finding_1 : decode cX6_finding 1 = .ok (.getfield 19, 3) := by decide +kernel
theorem dX6_finding_4 : decode cX6_finding 4 = .ok (.ldc 63, 2) := by decide +kernel
theorem dX6_finding_6 : decode cX6_finding 6 = .ok (.iload_n 1, 1) := by decide +kernel
theorem dX6_finding_7 : decode cX6_finding 7 = .ok (.isub, 1) := by decide +kernel
theorem dX6_finding_8 : decode cX6_finding 8 = .ok (.iconst 1, 1) := by decide +kernel
theorem dX6_finding_9 : decode cX6_finding 9 = .ok (.iadd, 1) := by decide +kernel
theorem dX6_finding_10 : decode cX6_finding 10 = .ok (.dup2, 1) := by decide +kernel
theorem dX6_finding_11 : decode cX6_finding 11 = .ok (.iaload, 1) := by decide +kernel
theorem dX6_finding_12 : decode cX6_finding 12 = .ok (.iconst 1, 1) := by decide +kernel
theorem dX6_finding_13 : decode cX6_finding 13 = .ok (.iadd, 1) := by decide +kernel
theorem dX6_finding_14 : decode cX6_finding 14 = .ok (.iastore, 1) := by decide +kernel
theorem dX6_finding_15 : decode cX6_finding 15 = .ok (.aload_n 0, 1) := by decide +kernel
theorem dX6_finding_16 : decode cX6_finding 16 = .ok (.getfield 19, 3) := by decide +kernel
theorem dX6_finding_19 : decode cX6_finding 19 = .ok (.iconst 0, 1) := by decide +kernel
theorem dX6_finding_20 : decode cX6_finding 20 = .ok (.dup2, 1) := by decide +kernel
theorem dX6_finding_21 : decode cX6_finding 21 = .ok (.iaload, 1) := by decide +kernel
theorem dX6_finding_22 : decode cX6_finding 22 = .ok (.iconst 1, 1) := by decide +kernel
theorem dX6_finding_23 : decode cX6_finding 23 = .ok (.iadd, 1) := by decide +kernel
theorem dX6_finding_24 : decode cX6_finding 24 = .ok (.iastore, 1) := by decide +kernel
theorem dX6_finding_25 : decode cX6_finding 25 = .ok (.iload_n 1, 1) := by decide +kernel
theorem dX6_finding_26 : decode cX6_finding 26 = .ok (.ireturn, 1) := by decide +kernel
theorem dX6_within_0 : decode cX6_within 0 = .ok (.iload_n 0, 1) := by decide +kernel
theorem dX6_within_1 : decode cX6_within 1 = .ok (.iload_n 1, 1) := by decide +kernel
theorem dX6_within_2 : decode cX6_within 2 = .ok (.if_icmp .lt 12, 3) := by decide +kernel
theorem dX6_within_5 : decode cX6_within 5 = .ok (.iload_n 0, 1) := by decide +kernel
theorem dX6_within_6 : decode cX6_within 6 = .ok (.iload_n 2, 1) := by decide +kernel
theorem dX6_within_7 : decode cX6_within 7 = .ok (.if_icmp .gt 7, 3) := by decide +kernel
theorem dX6_within_10 : decode cX6_within 10 = .ok (.iconst 1, 1) := by decide +kernel
theorem dX6_within_11 : decode cX6_within 11 = .ok (.goto 4, 3) := by decide +kernel
theorem dX6_within_14 : decode cX6_within 14 = .ok (.iconst 0, 1) := by decide +kernel
theorem dX6_within_15 : decode cX6_within 15 = .ok (.ireturn, 1) := by decide +kernel
theorem dX6_become_0 : decode cX6_become 0 = .ok (.aload_n 0, 1) := by decide +kernel
theorem dX6_become_1 : decode cX6_become 1 = .ok (.getfield 9, 3) := by decide +kernel
theorem dX6_become_4 : decode cX6_become 4 = .ok (.iload_n 1, 1) := by decide +kernel
theorem dX6_become_5 : decode cX6_become 5 = .ok (.iaload, 1) := by decide +kernel
theorem dX6_become_6 : decode cX6_become 6 = .ok (.istore_n 3, 1) := by decide +kernel
theorem dX6_become_7 : decode cX6_become 7 = .ok (.aload_n 0, 1) := by decide +kernel
theorem dX6_become_8 : decode cX6_become 8 = .ok (.getfield 9, 3) := by decide +kernel
theorem dX6_become_11 : decode cX6_become 11 = .ok (.iload_n 1, 1) := by decide +kernel
theorem dX6_become_12 : decode cX6_become 12 = .ok (.iload_n 2, 1) := by decide +kernel
theorem dX6_become_13 : decode cX6_become 13 = .ok (.iastore, 1) := by decide +kernel
theorem dX6_become_14 : decode cX6_become 14 = .ok (.iload_n 3, 1) := by decide +kernel
theorem dX6_become_15 : decode cX6_become 15 = .ok (.ireturn, 1) := by decide +kernel
theorem dX6_copyRow_0 : decode cX6_copyRow 0 = .ok (.iconst 0, 1) := by decide +kernel
theorem dX6_copyRow_1 : decode cX6_copyRow 1 = .ok (.istore_n 2, 1) := by decide +kernel
theorem dX6_copyRow_2 : decode cX6_copyRow 2 = .ok (.iload_n 2, 1) := by decide +kernel
theorem dX6_copyRow_3 : decode cX6_copyRow 3 = .ok (.bipush 94, 2) := by decide +kernel
theorem dX6_copyRow_5 : decode cX6_copyRow 5 = .ok (.if_icmp .ge 15, 3) := by decide +kernel
theorem dX6_copyRow_8 : decode cX6_copyRow 8 = .ok (.aload_n 1, 1) := by decide +kernel
theorem dX6_copyRow_9 : decode cX6_copyRow 9 = .ok (.iload_n 2, 1) := by decide +kernel
theorem dX6_copyRow_10 : decode cX6_copyRow 10 = .ok (.aload_n 0, 1) := by decide +kernel
theorem dX6_copyRow_11 : decode cX6_copyRow 11 = .ok (.iload_n 2, 1) := by decide +kernel
theorem dX6_copyRow_12 : decode cX6_copyRow 12 = .ok (.iaload, 1) := by decide +kernel
theorem dX6_copyRow_13 : decode cX6_copyRow 13 = .ok (.iastore, 1) := by decide +kernel
theorem dX6_copyRow_14 : decode cX6_copyRow 14 = .ok (.iinc 2 1, 3) := by decide +kernel
theorem dX6_copyRow_17 : decode cX6_copyRow 17 = .ok (.goto (-15), 3) := by decide +kernel
theorem dX6_copyRow_20 : decode cX6_copyRow 20 = .ok (.return_, 1) := by decide +kernel
theorem dX6_putBack_0 : decode cX6_putBack 0 = .ok (.aload_n 0, 1) := by decide +kernel
theorem dX6_putBack_1 : decode cX6_putBack 1 = .ok (.getfield 16, 3) := by decide +kernel
theorem dX6_putBack_4 : decode cX6_putBack 4 = .ok (.aload_n 0, 1) := by decide +kernel
theorem dX6_putBack_5 : decode cX6_putBack 5 = .ok (.getfield 9, 3) := by decide +kernel
theorem dX6_putBack_8 : decode cX6_putBack 8 = .ok (.invokestatic 64, 3) := by decide +kernel
theorem dX6_putBack_11 : decode cX6_putBack 11 = .ok (.iload_n 1, 1) := by decide +kernel
theorem dX6_putBack_12 : decode cX6_putBack 12 = .ok (.ireturn, 1) := by decide +kernel
theorem dX6_orNone_0 : decode cX6_orNone 0 = .ok (.iload_n 1, 1) := by decide +kernel
theorem dX6_orNone_1 : decode cX6_orNone 1 = .ok (.ifCond .ge 12, 3) := by decide +kernel
theorem dX6_orNone_4 : decode cX6_orNone 4 = .ok (.aload_n 0, 1) := by decide +kernel
theorem dX6_orNone_5 : decode cX6_orNone 5 = .ok (.ldc 68, 2) := by decide +kernel
theorem dX6_orNone_7 : decode cX6_orNone 7 = .ok (.invokevirtual 69, 3) := by decide +kernel
theorem dX6_orNone_10 : decode cX6_orNone 10 = .ok (.goto 4, 3) := by decide +kernel
theorem dX6_orNone_13 : decode cX6_orNone 13 = .ok (.iload_n 1, 1) := by decide +kernel
theorem dX6_orNone_14 : decode cX6_orNone 14 = .ok (.ireturn, 1) := by decide +kernel
theorem dX6_bits_0 : decode cX6_bits 0 = .ok (.iconst 0, 1) := by decide +kernel
theorem dX6_bits_1 : decode cX6_bits 1 = .ok (.istore_n 1, 1) := by decide +kernel
theorem dX6_bits_2 : decode cX6_bits 2 = .ok (.iload_n 0, 1) := by decide +kernel
theorem dX6_bits_3 : decode cX6_bits 3 = .ok (.istore_n 2, 1) := by decide +kernel
theorem dX6_bits_4 : decode cX6_bits 4 = .ok (.iload_n 2, 1) := by decide +kernel
theorem dX6_bits_5 : decode cX6_bits 5 = .ok (.ifCond .eq 15, 3) := by decide +kernel
theorem dX6_bits_8 : decode cX6_bits 8 = .ok (.iinc 1 1, 3) := by decide +kernel
theorem dX6_bits_11 : decode cX6_bits 11 = .ok (.iload_n 2, 1) := by decide +kernel
theorem dX6_bits_12 : decode cX6_bits 12 = .ok (.iload_n 2, 1) := by decide +kernel
theorem dX6_bits_13 : decode cX6_bits 13 = .ok (.iconst 1, 1) := by decide +kernel
theorem dX6_bits_14 : decode cX6_bits 14 = .ok (.isub, 1) := by decide +kernel
theorem dX6_bits_15 : decode cX6_bits 15 = .ok (.iand, 1) := by decide +kernel
theorem dX6_bits_16 : decode cX6_bits 16 = .ok (.istore_n 2, 1) := by decide +kernel
theorem dX6_bits_17 : decode cX6_bits 17 = .ok (.goto (-13), 3) := by decide +kernel
theorem dX6_bits_20 : decode cX6_bits 20 = .ok (.iload_n 1, 1) := by decide +kernel
theorem dX6_bits_21 : decode cX6_bits 21 = .ok (.ireturn, 1) := by decide +kernel
theorem dX6_isDate_0 : decode cX6_isDate 0 = .ok (.iload_n 0, 1) := by decide +kernel
theorem dX6_isDate_1 : decode cX6_isDate 1 = .ok (.iconst 0, 1) := by decide +kernel
theorem dX6_isDate_2 : decode cX6_isDate 2 = .ok (.bipush 59, 2) := by decide +kernel
theorem dX6_isDate_4 : decode cX6_isDate 4 = .ok (.invokestatic 73, 3) := by decide +kernel
theorem dX6_isDate_7 : decode cX6_isDate 7 = .ok (.ireturn, 1) := by decide +kernel
theorem dX6_singerAt_0 : decode cX6_singerAt 0 = .ok (.bipush 14, 2) := by decide +kernel
theorem dX6_singerAt_2 : decode cX6_singerAt 2 = .ok (.bipush 10, 2) := by decide +kernel
theorem dX6_singerAt_4 : decode cX6_singerAt 4 = .ok (.iload_n 0, 1) := by decide +kernel
theorem dX6_singerAt_5 : decode cX6_singerAt 5 = .ok (.imul, 1) := by decide +kernel
theorem dX6_singerAt_6 : decode cX6_singerAt 6 = .ok (.iadd, 1) := by decide +kernel
theorem dX6_singerAt_7 : decode cX6_singerAt 7 = .ok (.iload_n 1, 1) := by decide +kernel
theorem dX6_singerAt_8 : decode cX6_singerAt 8 = .ok (.iadd, 1) := by decide +kernel
theorem dX6_singerAt_9 : decode cX6_singerAt 9 = .ok (.ireturn, 1) := by decide +kernel
theorem dX6_singerIs_0 : decode cX6_singerIs 0 = .ok (.aload_n 0, 1) := by decide +kernel
theorem dX6_singerIs_1 : decode cX6_singerIs 1 = .ok (.getfield 9, 3) := by decide +kernel
theorem dX6_singerIs_4 : decode cX6_singerIs 4 = .ok (.iload_n 1, 1) := by decide +kernel
theorem dX6_singerIs_5 : decode cX6_singerIs 5 = .ok (.iload_n 2, 1) := by decide +kernel
theorem dX6_singerIs_6 : decode cX6_singerIs 6 = .ok (.invokestatic 77, 3) := by decide +kernel
theorem dX6_singerIs_9 : decode cX6_singerIs 9 = .ok (.iaload, 1) := by decide +kernel
theorem dX6_singerIs_10 : decode cX6_singerIs 10 = .ok (.ireturn, 1) := by decide +kernel
theorem dX6_isSinger_0 : decode cX6_isSinger 0 = .ok (.iload_n 1, 1) := by decide +kernel
theorem dX6_isSinger_1 : decode cX6_isSinger 1 = .ok (.iconst 0, 1) := by decide +kernel
theorem dX6_isSinger_2 : decode cX6_isSinger 2 = .ok (.aload_n 0, 1) := by decide +kernel
theorem dX6_isSinger_3 : decode cX6_isSinger 3 = .ok (.getfield 9, 3) := by decide +kernel
theorem dX6_isSinger_6 : decode cX6_isSinger 6 = .ok (.iconst 1, 1) := by decide +kernel
theorem dX6_isSinger_7 : decode cX6_isSinger 7 = .ok (.iaload, 1) := by decide +kernel
theorem dX6_isSinger_8 : decode cX6_isSinger 8 = .ok (.iconst 1, 1) := by decide +kernel
theorem dX6_isSinger_9 : decode cX6_isSinger 9 = .ok (.isub, 1) := by decide +kernel
theorem dX6_isSinger_10 : decode cX6_isSinger 10 = .ok (.invokestatic 73, 3) := by decide +kernel
theorem dX6_isSinger_13 : decode cX6_isSinger 13 = .ok (.ireturn, 1) := by decide +kernel
theorem dX6_isKind_0 : decode cX6_isKind 0 = .ok (.iload_n 0, 1) := by decide +kernel
theorem dX6_isKind_1 : decode cX6_isKind 1 = .ok (.iconst 0, 1) := by decide +kernel
theorem dX6_isKind_2 : decode cX6_isKind 2 = .ok (.bipush 6, 2) := by decide +kernel
theorem dX6_isKind_4 : decode cX6_isKind 4 = .ok (.invokestatic 73, 3) := by decide +kernel
theorem dX6_isKind_7 : decode cX6_isKind 7 = .ok (.ireturn, 1) := by decide +kernel
theorem dX6_comes_0 : decode cX6_comes 0 = .ok (.aload_n 0, 1) := by decide +kernel
theorem dX6_comes_1 : decode cX6_comes 1 = .ok (.getfield 9, 3) := by decide +kernel
theorem dX6_comes_4 : decode cX6_comes 4 = .ok (.iconst 1, 1) := by decide +kernel
theorem dX6_comes_5 : decode cX6_comes 5 = .ok (.iaload, 1) := by decide +kernel
theorem dX6_comes_6 : decode cX6_comes 6 = .ok (.istore_n 3, 1) := by decide +kernel
theorem dX6_comes_7 : decode cX6_comes 7 = .ok (.iconst 0, 1) := by decide +kernel
theorem dX6_comes_8 : decode cX6_comes 8 = .ok (.istore 4, 2) := by decide +kernel
theorem dX6_comes_10 : decode cX6_comes 10 = .ok (.iload 4, 2) := by decide +kernel
theorem dX6_comes_12 : decode cX6_comes 12 = .ok (.bipush 10, 2) := by decide +kernel
theorem dX6_comes_14 : decode cX6_comes 14 = .ok (.if_icmp .ge 21, 3) := by decide +kernel
theorem dX6_comes_17 : decode cX6_comes 17 = .ok (.aload_n 0, 1) := by decide +kernel
theorem dX6_comes_18 : decode cX6_comes 18 = .ok (.getfield 9, 3) := by decide +kernel
theorem dX6_comes_21 : decode cX6_comes 21 = .ok (.iload_n 3, 1) := by decide +kernel
theorem dX6_comes_22 : decode cX6_comes 22 = .ok (.iload 4, 2) := by decide +kernel
theorem dX6_comes_24 : decode cX6_comes 24 = .ok (.invokestatic 77, 3) := by decide +kernel
theorem dX6_comes_27 : decode cX6_comes 27 = .ok (.iconst 0, 1) := by decide +kernel
theorem dX6_comes_28 : decode cX6_comes 28 = .ok (.iastore, 1) := by decide +kernel
theorem dX6_comes_29 : decode cX6_comes 29 = .ok (.iinc 4 1, 3) := by decide +kernel
theorem dX6_comes_32 : decode cX6_comes 32 = .ok (.goto (-22), 3) := by decide +kernel
theorem dX6_comes_35 : decode cX6_comes 35 = .ok (.aload_n 0, 1) := by decide +kernel
theorem dX6_comes_36 : decode cX6_comes 36 = .ok (.getfield 9, 3) := by decide +kernel
theorem dX6_comes_39 : decode cX6_comes 39 = .ok (.iload_n 3, 1) := by decide +kernel
theorem dX6_comes_40 : decode cX6_comes 40 = .ok (.iconst 0, 1) := by decide +kernel
theorem dX6_comes_41 : decode cX6_comes 41 = .ok (.invokestatic 77, 3) := by decide +kernel
theorem dX6_comes_44 : decode cX6_comes 44 = .ok (.iload_n 1, 1) := by decide +kernel
theorem dX6_comes_45 : decode cX6_comes 45 = .ok (.iastore, 1) := by decide +kernel
theorem dX6_comes_46 : decode cX6_comes 46 = .ok (.aload_n 0, 1) := by decide +kernel
theorem dX6_comes_47 : decode cX6_comes 47 = .ok (.getfield 9, 3) := by decide +kernel
theorem dX6_comes_50 : decode cX6_comes 50 = .ok (.iload_n 3, 1) := by decide +kernel
theorem dX6_comes_51 : decode cX6_comes 51 = .ok (.iconst 1, 1) := by decide +kernel
theorem dX6_comes_52 : decode cX6_comes 52 = .ok (.invokestatic 77, 3) := by decide +kernel
theorem dX6_comes_55 : decode cX6_comes 55 = .ok (.iload_n 2, 1) := by decide +kernel
theorem dX6_comes_56 : decode cX6_comes 56 = .ok (.iastore, 1) := by decide +kernel
theorem dX6_comes_57 : decode cX6_comes 57 = .ok (.aload_n 0, 1) := by decide +kernel
theorem dX6_comes_58 : decode cX6_comes 58 = .ok (.getfield 9, 3) := by decide +kernel
theorem dX6_comes_61 : decode cX6_comes 61 = .ok (.iload_n 3, 1) := by decide +kernel
theorem dX6_comes_62 : decode cX6_comes 62 = .ok (.iconst 2, 1) := by decide +kernel
theorem dX6_comes_63 : decode cX6_comes 63 = .ok (.invokestatic 77, 3) := by decide +kernel
theorem dX6_comes_66 : decode cX6_comes 66 = .ok (.iconst (-1), 1) := by decide +kernel
theorem dX6_comes_67 : decode cX6_comes 67 = .ok (.iastore, 1) := by decide +kernel
theorem dX6_comes_68 : decode cX6_comes 68 = .ok (.aload_n 0, 1) := by decide +kernel
theorem dX6_comes_69 : decode cX6_comes 69 = .ok (.getfield 9, 3) := by decide +kernel
theorem dX6_comes_72 : decode cX6_comes 72 = .ok (.iload_n 3, 1) := by decide +kernel
theorem dX6_comes_73 : decode cX6_comes 73 = .ok (.iconst 3, 1) := by decide +kernel
theorem dX6_comes_74 : decode cX6_comes 74 = .ok (.invokestatic 77, 3) := by decide +kernel
theorem dX6_comes_77 : decode cX6_comes 77 = .ok (.bipush 60, 2) := by decide +kernel
theorem dX6_comes_79 : decode cX6_comes 79 = .ok (.iastore, 1) := by decide +kernel
theorem dX6_comes_80 : decode cX6_comes 80 = .ok (.aload_n 0, 1) := by decide +kernel
theorem dX6_comes_81 : decode cX6_comes 81 = .ok (.getfield 9, 3) := by decide +kernel
theorem dX6_comes_84 : decode cX6_comes 84 = .ok (.iload_n 3, 1) := by decide +kernel
theorem dX6_comes_85 : decode cX6_comes 85 = .ok (.iconst 4, 1) := by decide +kernel
theorem dX6_comes_86 : decode cX6_comes 86 = .ok (.invokestatic 77, 3) := by decide +kernel
theorem dX6_comes_89 : decode cX6_comes 89 = .ok (.bipush 30, 2) := by decide +kernel
theorem dX6_comes_91 : decode cX6_comes 91 = .ok (.iastore, 1) := by decide +kernel
theorem dX6_comes_92 : decode cX6_comes 92 = .ok (.aload_n 0, 1) := by decide +kernel
theorem dX6_comes_93 : decode cX6_comes 93 = .ok (.getfield 9, 3) := by decide +kernel
theorem dX6_comes_96 : decode cX6_comes 96 = .ok (.iload_n 3, 1) := by decide +kernel
theorem dX6_comes_97 : decode cX6_comes 97 = .ok (.iconst 5, 1) := by decide +kernel
theorem dX6_comes_98 : decode cX6_comes 98 = .ok (.invokestatic 77, 3) := by decide +kernel
theorem dX6_comes_101 : decode cX6_comes 101 = .ok (.iconst 3, 1) := by decide +kernel
theorem dX6_comes_102 : decode cX6_comes 102 = .ok (.iastore, 1) := by decide +kernel
theorem dX6_comes_103 : decode cX6_comes 103 = .ok (.aload_n 0, 1) := by decide +kernel
theorem dX6_comes_104 : decode cX6_comes 104 = .ok (.getfield 9, 3) := by decide +kernel
theorem dX6_comes_107 : decode cX6_comes 107 = .ok (.iconst 1, 1) := by decide +kernel
theorem dX6_comes_108 : decode cX6_comes 108 = .ok (.dup2, 1) := by decide +kernel
theorem dX6_comes_109 : decode cX6_comes 109 = .ok (.iaload, 1) := by decide +kernel
theorem dX6_comes_110 : decode cX6_comes 110 = .ok (.iconst 1, 1) := by decide +kernel
theorem dX6_comes_111 : decode cX6_comes 111 = .ok (.iadd, 1) := by decide +kernel
theorem dX6_comes_112 : decode cX6_comes 112 = .ok (.iastore, 1) := by decide +kernel
theorem dX6_comes_113 : decode cX6_comes 113 = .ok (.iload_n 3, 1) := by decide +kernel
theorem dX6_comes_114 : decode cX6_comes 114 = .ok (.ireturn, 1) := by decide +kernel
theorem dX6_singer_0 : decode cX6_singer 0 = .ok (.iload_n 1, 1) := by decide +kernel
theorem dX6_singer_1 : decode cX6_singer 1 = .ok (.invokestatic 81, 3) := by decide +kernel
theorem dX6_singer_4 : decode cX6_singer 4 = .ok (.ifCond .eq 10, 3) := by decide +kernel
theorem dX6_singer_7 : decode cX6_singer 7 = .ok (.iload_n 2, 1) := by decide +kernel
theorem dX6_singer_8 : decode cX6_singer 8 = .ok (.invokestatic 85, 3) := by decide +kernel
theorem dX6_singer_11 : decode cX6_singer 11 = .ok (.ifCond .ne 10, 3) := by decide +kernel
theorem dX6_singer_14 : decode cX6_singer 14 = .ok (.aload_n 0, 1) := by decide +kernel
theorem dX6_singer_15 : decode cX6_singer 15 = .ok (.ldc 63, 2) := by decide +kernel
theorem dX6_singer_17 : decode cX6_singer 17 = .ok (.invokevirtual 69, 3) := by decide +kernel
theorem dX6_singer_20 : decode cX6_singer 20 = .ok (.ireturn, 1) := by decide +kernel
theorem dX6_singer_21 : decode cX6_singer 21 = .ok (.aload_n 0, 1) := by decide +kernel
theorem dX6_singer_22 : decode cX6_singer 22 = .ok (.getfield 9, 3) := by decide +kernel
theorem dX6_singer_25 : decode cX6_singer 25 = .ok (.iconst 1, 1) := by decide +kernel
theorem dX6_singer_26 : decode cX6_singer 26 = .ok (.iaload, 1) := by decide +kernel
theorem dX6_singer_27 : decode cX6_singer 27 = .ok (.bipush 8, 2) := by decide +kernel
theorem dX6_singer_29 : decode cX6_singer 29 = .ok (.if_icmp .ne 12, 3) := by decide +kernel
theorem dX6_singer_32 : decode cX6_singer 32 = .ok (.aload_n 0, 1) := by decide +kernel
theorem dX6_singer_33 : decode cX6_singer 33 = .ok (.ldc 88, 2) := by decide +kernel
theorem dX6_singer_35 : decode cX6_singer 35 = .ok (.invokevirtual 69, 3) := by decide +kernel
theorem dX6_singer_38 : decode cX6_singer 38 = .ok (.goto 9, 3) := by decide +kernel
theorem dX6_singer_41 : decode cX6_singer 41 = .ok (.aload_n 0, 1) := by decide +kernel
theorem dX6_singer_42 : decode cX6_singer 42 = .ok (.iload_n 1, 1) := by decide +kernel
theorem dX6_singer_43 : decode cX6_singer 43 = .ok (.iload_n 2, 1) := by decide +kernel
theorem dX6_singer_44 : decode cX6_singer 44 = .ok (.invokevirtual 89, 3) := by decide +kernel
theorem dX6_singer_47 : decode cX6_singer 47 = .ok (.ireturn, 1) := by decide +kernel
theorem dX6_isDead_0 : decode cX6_isDead 0 = .ok (.aload_n 0, 1) := by decide +kernel
theorem dX6_isDead_1 : decode cX6_isDead 1 = .ok (.iload_n 1, 1) := by decide +kernel
theorem dX6_isDead_2 : decode cX6_isDead 2 = .ok (.bipush 6, 2) := by decide +kernel
theorem dX6_isDead_4 : decode cX6_isDead 4 = .ok (.invokevirtual 92, 3) := by decide +kernel
theorem dX6_isDead_7 : decode cX6_isDead 7 = .ok (.iconst 1, 1) := by decide +kernel
theorem dX6_isDead_8 : decode cX6_isDead 8 = .ok (.if_icmp .ne 7, 3) := by decide +kernel
theorem dX6_isDead_11 : decode cX6_isDead 11 = .ok (.iconst 1, 1) := by decide +kernel
theorem dX6_isDead_12 : decode cX6_isDead 12 = .ok (.goto 4, 3) := by decide +kernel
theorem dX6_isDead_15 : decode cX6_isDead 15 = .ok (.iconst 0, 1) := by decide +kernel
theorem dX6_isDead_16 : decode cX6_isDead 16 = .ok (.ireturn, 1) := by decide +kernel
theorem dX6_doesSing_0 : decode cX6_doesSing 0 = .ok (.aload_n 0, 1) := by decide +kernel
theorem dX6_doesSing_1 : decode cX6_doesSing 1 = .ok (.iload_n 1, 1) := by decide +kernel
theorem dX6_doesSing_2 : decode cX6_doesSing 2 = .ok (.invokevirtual 95, 3) := by decide +kernel
theorem dX6_doesSing_5 : decode cX6_doesSing 5 = .ok (.ifCond .ne 17, 3) := by decide +kernel
theorem dX6_doesSing_8 : decode cX6_doesSing 8 = .ok (.aload_n 0, 1) := by decide +kernel
theorem dX6_doesSing_9 : decode cX6_doesSing 9 = .ok (.iload_n 1, 1) := by decide +kernel
theorem dX6_doesSing_10 : decode cX6_doesSing 10 = .ok (.bipush 7, 2) := by decide +kernel
theorem dX6_doesSing_12 : decode cX6_doesSing 12 = .ok (.invokevirtual 92, 3) := by decide +kernel
theorem dX6_doesSing_15 : decode cX6_doesSing 15 = .ok (.ifCond .le 7, 3) := by decide +kernel
theorem dX6_doesSing_18 : decode cX6_doesSing 18 = .ok (.iconst 1, 1) := by decide +kernel
theorem dX6_doesSing_19 : decode cX6_doesSing 19 = .ok (.goto 4, 3) := by decide +kernel
theorem dX6_doesSing_22 : decode cX6_doesSing 22 = .ok (.iconst 0, 1) := by decide +kernel
theorem dX6_doesSing_23 : decode cX6_doesSing 23 = .ok (.ireturn, 1) := by decide +kernel
theorem dX6_gap_0 : decode cX6_gap 0 = .ok (.iconst 1, 1) := by decide +kernel
theorem dX6_gap_1 : decode cX6_gap 1 = .ok (.aload_n 0, 1) := by decide +kernel
theorem dX6_gap_2 : decode cX6_gap 2 = .ok (.iload_n 1, 1) := by decide +kernel
theorem dX6_gap_3 : decode cX6_gap 3 = .ok (.iconst 4, 1) := by decide +kernel
theorem dX6_gap_4 : decode cX6_gap 4 = .ok (.invokevirtual 92, 3) := by decide +kernel
theorem dX6_gap_7 : decode cX6_gap 7 = .ok (.bipush 10, 2) := by decide +kernel
theorem dX6_gap_9 : decode cX6_gap 9 = .ok (.idiv, 1) := by decide +kernel
theorem dX6_gap_10 : decode cX6_gap 10 = .ok (.iadd, 1) := by decide +kernel
theorem dX6_gap_11 : decode cX6_gap 11 = .ok (.istore_n 2, 1) := by decide +kernel
theorem dX6_gap_12 : decode cX6_gap 12 = .ok (.aload_n 0, 1) := by decide +kernel
theorem dX6_gap_13 : decode cX6_gap 13 = .ok (.iload_n 1, 1) := by decide +kernel
theorem dX6_gap_14 : decode cX6_gap 14 = .ok (.iconst 0, 1) := by decide +kernel
theorem dX6_gap_15 : decode cX6_gap 15 = .ok (.invokevirtual 92, 3) := by decide +kernel
theorem dX6_gap_18 : decode cX6_gap 18 = .ok (.tableswitch 69 1 6 #[38, 50, 40, 44, 69, 52], 38) := by decide +kernel
theorem dX6_gap_56 : decode cX6_gap 56 = .ok (.iload_n 2, 1) := by decide +kernel
theorem dX6_gap_57 : decode cX6_gap 57 = .ok (.ireturn, 1) := by decide +kernel
theorem dX6_gap_58 : decode cX6_gap 58 = .ok (.iconst 2, 1) := by decide +kernel
theorem dX6_gap_59 : decode cX6_gap 59 = .ok (.iload_n 2, 1) := by decide +kernel
theorem dX6_gap_60 : decode cX6_gap 60 = .ok (.imul, 1) := by decide +kernel
theorem dX6_gap_61 : decode cX6_gap 61 = .ok (.ireturn, 1) := by decide +kernel
theorem dX6_gap_62 : decode cX6_gap 62 = .ok (.iconst 2, 1) := by decide +kernel
theorem dX6_gap_63 : decode cX6_gap 63 = .ok (.iload_n 2, 1) := by decide +kernel
theorem dX6_gap_64 : decode cX6_gap 64 = .ok (.imul, 1) := by decide +kernel
theorem dX6_gap_65 : decode cX6_gap 65 = .ok (.iconst 5, 1) := by decide +kernel
theorem dX6_gap_66 : decode cX6_gap 66 = .ok (.iadd, 1) := by decide +kernel
theorem dX6_gap_67 : decode cX6_gap 67 = .ok (.ireturn, 1) := by decide +kernel
theorem dX6_gap_68 : decode cX6_gap 68 = .ok (.iconst 3, 1) := by decide +kernel
theorem dX6_gap_69 : decode cX6_gap 69 = .ok (.ireturn, 1) := by decide +kernel
theorem dX6_gap_70 : decode cX6_gap 70 = .ok (.aload_n 0, 1) := by decide +kernel
theorem dX6_gap_71 : decode cX6_gap 71 = .ok (.iload_n 1, 1) := by decide +kernel
theorem dX6_gap_72 : decode cX6_gap 72 = .ok (.iconst 3, 1) := by decide +kernel
theorem dX6_gap_73 : decode cX6_gap 73 = .ok (.invokevirtual 92, 3) := by decide +kernel
theorem dX6_gap_76 : decode cX6_gap 76 = .ok (.bipush 50, 2) := by decide +kernel
theorem dX6_gap_78 : decode cX6_gap 78 = .ok (.if_icmp .lt 7, 3) := by decide +kernel
theorem dX6_gap_81 : decode cX6_gap 81 = .ok (.iconst 2, 1) := by decide +kernel
theorem dX6_gap_82 : decode cX6_gap 82 = .ok (.goto 4, 3) := by decide +kernel
theorem dX6_gap_85 : decode cX6_gap 85 = .ok (.iconst 3, 1) := by decide +kernel
theorem dX6_gap_86 : decode cX6_gap 86 = .ok (.ireturn, 1) := by decide +kernel
theorem dX6_gap_87 : decode cX6_gap 87 = .ok (.iconst 1, 1) := by decide +kernel
theorem dX6_gap_88 : decode cX6_gap 88 = .ok (.ireturn, 1) := by decide +kernel
theorem dX6_lasts_0 : decode cX6_lasts 0 = .ok (.aload_n 0, 1) := by decide +kernel
theorem dX6_lasts_1 : decode cX6_lasts 1 = .ok (.iload_n 1, 1) := by decide +kernel
theorem dX6_lasts_2 : decode cX6_lasts 2 = .ok (.iconst 5, 1) := by decide +kernel
theorem dX6_lasts_3 : decode cX6_lasts 3 = .ok (.invokevirtual 92, 3) := by decide +kernel
theorem dX6_lasts_6 : decode cX6_lasts 6 = .ok (.istore_n 2, 1) := by decide +kernel
theorem dX6_lasts_7 : decode cX6_lasts 7 = .ok (.aload_n 0, 1) := by decide +kernel
theorem dX6_lasts_8 : decode cX6_lasts 8 = .ok (.iload_n 1, 1) := by decide +kernel
theorem dX6_lasts_9 : decode cX6_lasts 9 = .ok (.iconst 0, 1) := by decide +kernel
theorem dX6_lasts_10 : decode cX6_lasts 10 = .ok (.invokevirtual 92, 3) := by decide +kernel
theorem dX6_lasts_13 : decode cX6_lasts 13 = .ok (.tableswitch 71 1 6 #[39, 57, 43, 43, 69, 63], 39) := by decide +kernel
theorem dX6_lasts_52 : decode cX6_lasts 52 = .ok (.iload_n 2, 1) := by decide +kernel
theorem dX6_lasts_53 : decode cX6_lasts 53 = .ok (.iconst 1, 1) := by decide +kernel
theorem dX6_lasts_54 : decode cX6_lasts 54 = .ok (.iadd, 1) := by decide +kernel
theorem dX6_lasts_55 : decode cX6_lasts 55 = .ok (.ireturn, 1) := by decide +kernel
theorem dX6_lasts_56 : decode cX6_lasts 56 = .ok (.iload_n 2, 1) := by decide +kernel
theorem dX6_lasts_57 : decode cX6_lasts 57 = .ok (.iconst 1, 1) := by decide +kernel
theorem dX6_lasts_58 : decode cX6_lasts 58 = .ok (.iadd, 1) := by decide +kernel
theorem dX6_lasts_59 : decode cX6_lasts 59 = .ok (.aload_n 0, 1) := by decide +kernel
theorem dX6_lasts_60 : decode cX6_lasts 60 = .ok (.iload_n 1, 1) := by decide +kernel
theorem dX6_lasts_61 : decode cX6_lasts 61 = .ok (.iconst 4, 1) := by decide +kernel
theorem dX6_lasts_62 : decode cX6_lasts 62 = .ok (.invokevirtual 92, 3) := by decide +kernel
theorem dX6_lasts_65 : decode cX6_lasts 65 = .ok (.bipush 20, 2) := by decide +kernel
theorem dX6_lasts_67 : decode cX6_lasts 67 = .ok (.idiv, 1) := by decide +kernel
theorem dX6_lasts_68 : decode cX6_lasts 68 = .ok (.iadd, 1) := by decide +kernel
theorem dX6_lasts_69 : decode cX6_lasts 69 = .ok (.ireturn, 1) := by decide +kernel
theorem dX6_lasts_70 : decode cX6_lasts 70 = .ok (.iload_n 2, 1) := by decide +kernel
theorem dX6_lasts_71 : decode cX6_lasts 71 = .ok (.iconst 2, 1) := by decide +kernel
theorem dX6_lasts_72 : decode cX6_lasts 72 = .ok (.idiv, 1) := by decide +kernel
theorem dX6_lasts_73 : decode cX6_lasts 73 = .ok (.iconst 1, 1) := by decide +kernel
theorem dX6_lasts_74 : decode cX6_lasts 74 = .ok (.iadd, 1) := by decide +kernel
theorem dX6_lasts_75 : decode cX6_lasts 75 = .ok (.ireturn, 1) := by decide +kernel
theorem dX6_lasts_76 : decode cX6_lasts 76 = .ok (.iload_n 2, 1) := by decide +kernel
theorem dX6_lasts_77 : decode cX6_lasts 77 = .ok (.iconst 2, 1) := by decide +kernel
theorem dX6_lasts_78 : decode cX6_lasts 78 = .ok (.idiv, 1) := by decide +kernel
theorem dX6_lasts_79 : decode cX6_lasts 79 = .ok (.iconst 3, 1) := by decide +kernel
theorem dX6_lasts_80 : decode cX6_lasts 80 = .ok (.iadd, 1) := by decide +kernel
theorem dX6_lasts_81 : decode cX6_lasts 81 = .ok (.ireturn, 1) := by decide +kernel
theorem dX6_lasts_82 : decode cX6_lasts 82 = .ok (.iconst 1, 1) := by decide +kernel
theorem dX6_lasts_83 : decode cX6_lasts 83 = .ok (.ireturn, 1) := by decide +kernel
theorem dX6_lasts_84 : decode cX6_lasts 84 = .ok (.iload_n 2, 1) := by decide +kernel
theorem dX6_lasts_85 : decode cX6_lasts 85 = .ok (.ireturn, 1) := by decide +kernel
theorem dX6_isAlone_0 : decode cX6_isAlone 0 = .ok (.iconst 1, 1) := by decide +kernel
theorem dX6_isAlone_1 : decode cX6_isAlone 1 = .ok (.istore_n 2, 1) := by decide +kernel
theorem dX6_isAlone_2 : decode cX6_isAlone 2 = .ok (.iconst 0, 1) := by decide +kernel
theorem dX6_isAlone_3 : decode cX6_isAlone 3 = .ok (.istore_n 3, 1) := by decide +kernel
theorem dX6_isAlone_4 : decode cX6_isAlone 4 = .ok (.iload_n 3, 1) := by decide +kernel
theorem dX6_isAlone_5 : decode cX6_isAlone 5 = .ok (.aload_n 0, 1) := by decide +kernel
theorem dX6_isAlone_6 : decode cX6_isAlone 6 = .ok (.getfield 9, 3) := by decide +kernel
theorem dX6_isAlone_9 : decode cX6_isAlone 9 = .ok (.iconst 1, 1) := by decide +kernel
theorem dX6_isAlone_10 : decode cX6_isAlone 10 = .ok (.iaload, 1) := by decide +kernel
theorem dX6_isAlone_11 : decode cX6_isAlone 11 = .ok (.if_icmp .ge 32, 3) := by decide +kernel
theorem dX6_isAlone_14 : decode cX6_isAlone 14 = .ok (.iload_n 2, 1) := by decide +kernel
theorem dX6_isAlone_15 : decode cX6_isAlone 15 = .ok (.ifCond .eq 20, 3) := by decide +kernel
theorem dX6_isAlone_18 : decode cX6_isAlone 18 = .ok (.iload_n 3, 1) := by decide +kernel
theorem dX6_isAlone_19 : decode cX6_isAlone 19 = .ok (.iload_n 1, 1) := by decide +kernel
theorem dX6_isAlone_20 : decode cX6_isAlone 20 = .ok (.if_icmp .eq 11, 3) := by decide +kernel
theorem dX6_isAlone_23 : decode cX6_isAlone 23 = .ok (.aload_n 0, 1) := by decide +kernel
theorem dX6_isAlone_24 : decode cX6_isAlone 24 = .ok (.iload_n 3, 1) := by decide +kernel
theorem dX6_isAlone_25 : decode cX6_isAlone 25 = .ok (.invokevirtual 98, 3) := by decide +kernel
theorem dX6_isAlone_28 : decode cX6_isAlone 28 = .ok (.ifCond .ne 7, 3) := by decide +kernel
theorem dX6_isAlone_31 : decode cX6_isAlone 31 = .ok (.iconst 1, 1) := by decide +kernel
theorem dX6_isAlone_32 : decode cX6_isAlone 32 = .ok (.goto 4, 3) := by decide +kernel
theorem dX6_isAlone_35 : decode cX6_isAlone 35 = .ok (.iconst 0, 1) := by decide +kernel
theorem dX6_isAlone_36 : decode cX6_isAlone 36 = .ok (.istore_n 2, 1) := by decide +kernel
theorem dX6_isAlone_37 : decode cX6_isAlone 37 = .ok (.iinc 3 1, 3) := by decide +kernel
theorem dX6_isAlone_40 : decode cX6_isAlone 40 = .ok (.goto (-36), 3) := by decide +kernel
theorem dX6_isAlone_43 : decode cX6_isAlone 43 = .ok (.iload_n 2, 1) := by decide +kernel
theorem dX6_isAlone_44 : decode cX6_isAlone 44 = .ok (.ireturn, 1) := by decide +kernel
theorem dX6_sells_0 : decode cX6_sells 0 = .ok (.aload_n 0, 1) := by decide +kernel
theorem dX6_sells_1 : decode cX6_sells 1 = .ok (.iload_n 1, 1) := by decide +kernel
theorem dX6_sells_2 : decode cX6_sells 2 = .ok (.iconst 3, 1) := by decide +kernel
theorem dX6_sells_3 : decode cX6_sells 3 = .ok (.invokevirtual 92, 3) := by decide +kernel
theorem dX6_sells_6 : decode cX6_sells 6 = .ok (.bipush 10, 2) := by decide +kernel
theorem dX6_sells_8 : decode cX6_sells 8 = .ok (.idiv, 1) := by decide +kernel
theorem dX6_sells_9 : decode cX6_sells 9 = .ok (.istore_n 2, 1) := by decide +kernel
theorem dX6_sells_10 : decode cX6_sells 10 = .ok (.aload_n 0, 1) := by decide +kernel
theorem dX6_sells_11 : decode cX6_sells 11 = .ok (.iload_n 1, 1) := by decide +kernel
theorem dX6_sells_12 : decode cX6_sells 12 = .ok (.iconst 2, 1) := by decide +kernel
theorem dX6_sells_13 : decode cX6_sells 13 = .ok (.invokevirtual 92, 3) := by decide +kernel
theorem dX6_sells_16 : decode cX6_sells 16 = .ok (.istore_n 3, 1) := by decide +kernel
theorem dX6_sells_17 : decode cX6_sells 17 = .ok (.iload_n 3, 1) := by decide +kernel
theorem dX6_sells_18 : decode cX6_sells 18 = .ok (.ifCond .lt 17, 3) := by decide +kernel
theorem dX6_sells_21 : decode cX6_sells 21 = .ok (.aload_n 0, 1) := by decide +kernel
theorem dX6_sells_22 : decode cX6_sells 22 = .ok (.iload_n 3, 1) := by decide +kernel
theorem dX6_sells_23 : decode cX6_sells 23 = .ok (.invokevirtual 95, 3) := by decide +kernel
theorem dX6_sells_26 : decode cX6_sells 26 = .ok (.ifCond .ne 9, 3) := by decide +kernel
theorem dX6_sells_29 : decode cX6_sells 29 = .ok (.iload_n 2, 1) := by decide +kernel
theorem dX6_sells_30 : decode cX6_sells 30 = .ok (.iconst 1, 1) := by decide +kernel
theorem dX6_sells_31 : decode cX6_sells 31 = .ok (.iadd, 1) := by decide +kernel
theorem dX6_sells_32 : decode cX6_sells 32 = .ok (.goto 4, 3) := by decide +kernel
theorem dX6_sells_35 : decode cX6_sells 35 = .ok (.iload_n 2, 1) := by decide +kernel
theorem dX6_sells_36 : decode cX6_sells 36 = .ok (.istore 4, 2) := by decide +kernel
theorem dX6_sells_38 : decode cX6_sells 38 = .ok (.aload_n 0, 1) := by decide +kernel
theorem dX6_sells_39 : decode cX6_sells 39 = .ok (.iload_n 1, 1) := by decide +kernel
theorem dX6_sells_40 : decode cX6_sells 40 = .ok (.iconst 0, 1) := by decide +kernel
theorem dX6_sells_41 : decode cX6_sells 41 = .ok (.invokevirtual 92, 3) := by decide +kernel
theorem dX6_sells_44 : decode cX6_sells 44 = .ok (.tableswitch 67 1 6 #[40, 59, 40, 43, 63, 61], 40) := by decide +kernel
theorem dX6_sells_84 : decode cX6_sells 84 = .ok (.iload 4, 2) := by decide +kernel
theorem dX6_sells_86 : decode cX6_sells 86 = .ok (.ireturn, 1) := by decide +kernel
theorem dX6_sells_87 : decode cX6_sells 87 = .ok (.aload_n 0, 1) := by decide +kernel
theorem dX6_sells_88 : decode cX6_sells 88 = .ok (.iload_n 1, 1) := by decide +kernel
theorem dX6_sells_89 : decode cX6_sells 89 = .ok (.invokevirtual 101, 3) := by decide +kernel
theorem dX6_sells_92 : decode cX6_sells 92 = .ok (.ifCond .eq 8, 3) := by decide +kernel
theorem dX6_sells_95 : decode cX6_sells 95 = .ok (.bipush 16, 2) := by decide +kernel
theorem dX6_sells_97 : decode cX6_sells 97 = .ok (.goto 5, 3) := by decide +kernel
theorem dX6_sells_100 : decode cX6_sells 100 = .ok (.iload 4, 2) := by decide +kernel
theorem dX6_sells_102 : decode cX6_sells 102 = .ok (.ireturn, 1) := by decide +kernel
theorem dX6_sells_103 : decode cX6_sells 103 = .ok (.iconst 1, 1) := by decide +kernel
theorem dX6_sells_104 : decode cX6_sells 104 = .ok (.ireturn, 1) := by decide +kernel
theorem dX6_sells_105 : decode cX6_sells 105 = .ok (.iconst 3, 1) := by decide +kernel
theorem dX6_sells_106 : decode cX6_sells 106 = .ok (.ireturn, 1) := by decide +kernel
theorem dX6_sells_107 : decode cX6_sells 107 = .ok (.iload_n 2, 1) := by decide +kernel
theorem dX6_sells_108 : decode cX6_sells 108 = .ok (.iconst 3, 1) := by decide +kernel
theorem dX6_sells_109 : decode cX6_sells 109 = .ok (.iadd, 1) := by decide +kernel
theorem dX6_sells_110 : decode cX6_sells 110 = .ok (.ireturn, 1) := by decide +kernel
theorem dX6_sells_111 : decode cX6_sells 111 = .ok (.iload_n 2, 1) := by decide +kernel
theorem dX6_sells_112 : decode cX6_sells 112 = .ok (.ireturn, 1) := by decide +kernel
theorem dX6_wears_0 : decode cX6_wears 0 = .ok (.aload_n 0, 1) := by decide +kernel
theorem dX6_wears_1 : decode cX6_wears 1 = .ok (.iload_n 1, 1) := by decide +kernel
theorem dX6_wears_2 : decode cX6_wears 2 = .ok (.iconst 0, 1) := by decide +kernel
theorem dX6_wears_3 : decode cX6_wears 3 = .ok (.invokevirtual 92, 3) := by decide +kernel
theorem dX6_wears_6 : decode cX6_wears 6 = .ok (.tableswitch 60 2 6 #[38, 34, 36, 42, 40], 34) := by decide +kernel
theorem dX6_wears_40 : decode cX6_wears 40 = .ok (.iconst 4, 1) := by decide +kernel
theorem dX6_wears_41 : decode cX6_wears 41 = .ok (.ireturn, 1) := by decide +kernel
theorem dX6_wears_42 : decode cX6_wears 42 = .ok (.iconst 3, 1) := by decide +kernel
theorem dX6_wears_43 : decode cX6_wears 43 = .ok (.ireturn, 1) := by decide +kernel
theorem dX6_wears_44 : decode cX6_wears 44 = .ok (.iconst 0, 1) := by decide +kernel
theorem dX6_wears_45 : decode cX6_wears 45 = .ok (.ireturn, 1) := by decide +kernel
theorem dX6_wears_46 : decode cX6_wears 46 = .ok (.iconst 1, 1) := by decide +kernel
theorem dX6_wears_47 : decode cX6_wears 47 = .ok (.ireturn, 1) := by decide +kernel
theorem dX6_wears_48 : decode cX6_wears 48 = .ok (.aload_n 0, 1) := by decide +kernel
theorem dX6_wears_49 : decode cX6_wears 49 = .ok (.iload_n 1, 1) := by decide +kernel
theorem dX6_wears_50 : decode cX6_wears 50 = .ok (.iconst 4, 1) := by decide +kernel
theorem dX6_wears_51 : decode cX6_wears 51 = .ok (.invokevirtual 92, 3) := by decide +kernel
theorem dX6_wears_54 : decode cX6_wears 54 = .ok (.bipush 15, 2) := by decide +kernel
theorem dX6_wears_56 : decode cX6_wears 56 = .ok (.if_icmp .ge 8, 3) := by decide +kernel
theorem dX6_wears_59 : decode cX6_wears 59 = .ok (.bipush (-5), 2) := by decide +kernel
theorem dX6_wears_61 : decode cX6_wears 61 = .ok (.goto 4, 3) := by decide +kernel
theorem dX6_wears_64 : decode cX6_wears 64 = .ok (.iconst 0, 1) := by decide +kernel
theorem dX6_wears_65 : decode cX6_wears 65 = .ok (.ireturn, 1) := by decide +kernel
theorem dX6_wears_66 : decode cX6_wears 66 = .ok (.iconst 2, 1) := by decide +kernel
theorem dX6_wears_67 : decode cX6_wears 67 = .ok (.ireturn, 1) := by decide +kernel
theorem dX6_told_0 : decode cX6_told 0 = .ok (.iload_n 2, 1) := by decide +kernel
theorem dX6_told_1 : decode cX6_told 1 = .ok (.tableswitch 55 10 13 #[31, 37, 43, 49], 31) := by decide +kernel
theorem dX6_told_32 : decode cX6_told 32 = .ok (.aload_n 0, 1) := by decide +kernel
theorem dX6_told_33 : decode cX6_told 33 = .ok (.iload_n 1, 1) := by decide +kernel
theorem dX6_told_34 : decode cX6_told 34 = .ok (.invokevirtual 104, 3) := by decide +kernel
theorem dX6_told_37 : decode cX6_told 37 = .ok (.ireturn, 1) := by decide +kernel
theorem dX6_told_38 : decode cX6_told 38 = .ok (.aload_n 0, 1) := by decide +kernel
theorem dX6_told_39 : decode cX6_told 39 = .ok (.iload_n 1, 1) := by decide +kernel
theorem dX6_told_40 : decode cX6_told 40 = .ok (.invokevirtual 107, 3) := by decide +kernel
theorem dX6_told_43 : decode cX6_told 43 = .ok (.ireturn, 1) := by decide +kernel
theorem dX6_told_44 : decode cX6_told 44 = .ok (.aload_n 0, 1) := by decide +kernel
theorem dX6_told_45 : decode cX6_told 45 = .ok (.iload_n 1, 1) := by decide +kernel
theorem dX6_told_46 : decode cX6_told 46 = .ok (.invokevirtual 110, 3) := by decide +kernel
theorem dX6_told_49 : decode cX6_told 49 = .ok (.ireturn, 1) := by decide +kernel
theorem dX6_told_50 : decode cX6_told 50 = .ok (.aload_n 0, 1) := by decide +kernel
theorem dX6_told_51 : decode cX6_told 51 = .ok (.iload_n 1, 1) := by decide +kernel
theorem dX6_told_52 : decode cX6_told 52 = .ok (.invokevirtual 113, 3) := by decide +kernel
theorem dX6_told_55 : decode cX6_told 55 = .ok (.ireturn, 1) := by decide +kernel
theorem dX6_told_56 : decode cX6_told 56 = .ok (.aload_n 0, 1) := by decide +kernel
theorem dX6_told_57 : decode cX6_told 57 = .ok (.iload_n 1, 1) := by decide +kernel
theorem dX6_told_58 : decode cX6_told 58 = .ok (.iload_n 2, 1) := by decide +kernel
theorem dX6_told_59 : decode cX6_told 59 = .ok (.invokevirtual 92, 3) := by decide +kernel
theorem dX6_told_62 : decode cX6_told 62 = .ok (.ireturn, 1) := by decide +kernel
theorem dX6_of_0 : decode cX6_of 0 = .ok (.aload_n 0, 1) := by decide +kernel
theorem dX6_of_1 : decode cX6_of 1 = .ok (.iload_n 1, 1) := by decide +kernel
theorem dX6_of_2 : decode cX6_of 2 = .ok (.invokevirtual 116, 3) := by decide +kernel
theorem dX6_of_5 : decode cX6_of 5 = .ok (.ifCond .eq 22, 3) := by decide +kernel
theorem dX6_of_8 : decode cX6_of 8 = .ok (.iload_n 2, 1) := by decide +kernel
theorem dX6_of_9 : decode cX6_of 9 = .ok (.iconst 0, 1) := by decide +kernel
theorem dX6_of_10 : decode cX6_of 10 = .ok (.bipush 13, 2) := by decide +kernel
theorem dX6_of_12 : decode cX6_of 12 = .ok (.invokestatic 73, 3) := by decide +kernel
theorem dX6_of_15 : decode cX6_of 15 = .ok (.ifCond .eq 12, 3) := by decide +kernel
theorem dX6_of_18 : decode cX6_of 18 = .ok (.aload_n 0, 1) := by decide +kernel
theorem dX6_of_19 : decode cX6_of 19 = .ok (.iload_n 1, 1) := by decide +kernel
theorem dX6_of_20 : decode cX6_of 20 = .ok (.iload_n 2, 1) := by decide +kernel
theorem dX6_of_21 : decode cX6_of 21 = .ok (.invokevirtual 119, 3) := by decide +kernel
theorem dX6_of_24 : decode cX6_of 24 = .ok (.goto 9, 3) := by decide +kernel
theorem dX6_of_27 : decode cX6_of 27 = .ok (.aload_n 0, 1) := by decide +kernel
theorem dX6_of_28 : decode cX6_of 28 = .ok (.ldc 63, 2) := by decide +kernel
theorem dX6_of_30 : decode cX6_of 30 = .ok (.invokevirtual 69, 3) := by decide +kernel
theorem dX6_of_33 : decode cX6_of 33 = .ok (.ireturn, 1) := by decide +kernel
theorem dX6_isField_0 : decode cX6_isField 0 = .ok (.iload_n 2, 1) := by decide +kernel
theorem dX6_isField_1 : decode cX6_isField 1 = .ok (.tableswitch 129 0 9 #[55, 60, 65, 89, 97, 105, 113, 89, 89, 120], 55) := by decide +kernel
theorem dX6_isField_56 : decode cX6_isField 56 = .ok (.iload_n 3, 1) := by decide +kernel
theorem dX6_isField_57 : decode cX6_isField 57 = .ok (.invokestatic 81, 3) := by decide +kernel
theorem dX6_isField_60 : decode cX6_isField 60 = .ok (.ireturn, 1) := by decide +kernel
theorem dX6_isField_61 : decode cX6_isField 61 = .ok (.iload_n 3, 1) := by decide +kernel
theorem dX6_isField_62 : decode cX6_isField 62 = .ok (.invokestatic 85, 3) := by decide +kernel
theorem dX6_isField_65 : decode cX6_isField 65 = .ok (.ireturn, 1) := by decide +kernel
theorem dX6_isField_66 : decode cX6_isField 66 = .ok (.iload_n 3, 1) := by decide +kernel
theorem dX6_isField_67 : decode cX6_isField 67 = .ok (.iconst (-1), 1) := by decide +kernel
theorem dX6_isField_68 : decode cX6_isField 68 = .ok (.if_icmp .eq 16, 3) := by decide +kernel
theorem dX6_isField_71 : decode cX6_isField 71 = .ok (.aload_n 0, 1) := by decide +kernel
theorem dX6_isField_72 : decode cX6_isField 72 = .ok (.iload_n 3, 1) := by decide +kernel
theorem dX6_isField_73 : decode cX6_isField 73 = .ok (.invokevirtual 116, 3) := by decide +kernel
theorem dX6_isField_76 : decode cX6_isField 76 = .ok (.ifCond .eq 12, 3) := by decide +kernel
theorem dX6_isField_79 : decode cX6_isField 79 = .ok (.iload_n 3, 1) := by decide +kernel
theorem dX6_isField_80 : decode cX6_isField 80 = .ok (.iload_n 1, 1) := by decide +kernel
theorem dX6_isField_81 : decode cX6_isField 81 = .ok (.if_icmp .eq 7, 3) := by decide +kernel
theorem dX6_isField_84 : decode cX6_isField 84 = .ok (.iconst 1, 1) := by decide +kernel
theorem dX6_isField_85 : decode cX6_isField 85 = .ok (.goto 4, 3) := by decide +kernel
theorem dX6_isField_88 : decode cX6_isField 88 = .ok (.iconst 0, 1) := by decide +kernel
theorem dX6_isField_89 : decode cX6_isField 89 = .ok (.ireturn, 1) := by decide +kernel
theorem dX6_isField_90 : decode cX6_isField 90 = .ok (.iload_n 3, 1) := by decide +kernel
theorem dX6_isField_91 : decode cX6_isField 91 = .ok (.iconst 0, 1) := by decide +kernel
theorem dX6_isField_92 : decode cX6_isField 92 = .ok (.bipush 99, 2) := by decide +kernel
theorem dX6_isField_94 : decode cX6_isField 94 = .ok (.invokestatic 73, 3) := by decide +kernel
theorem dX6_isField_97 : decode cX6_isField 97 = .ok (.ireturn, 1) := by decide +kernel
theorem dX6_isField_98 : decode cX6_isField 98 = .ok (.iload_n 3, 1) := by decide +kernel
theorem dX6_isField_99 : decode cX6_isField 99 = .ok (.iconst 0, 1) := by decide +kernel
theorem dX6_isField_100 : decode cX6_isField 100 = .ok (.bipush 120, 2) := by decide +kernel
theorem dX6_isField_102 : decode cX6_isField 102 = .ok (.invokestatic 73, 3) := by decide +kernel
theorem dX6_isField_105 : decode cX6_isField 105 = .ok (.ireturn, 1) := by decide +kernel
theorem dX6_isField_106 : decode cX6_isField 106 = .ok (.iload_n 3, 1) := by decide +kernel
theorem dX6_isField_107 : decode cX6_isField 107 = .ok (.iconst 1, 1) := by decide +kernel
theorem dX6_isField_108 : decode cX6_isField 108 = .ok (.bipush 9, 2) := by decide +kernel
theorem dX6_isField_110 : decode cX6_isField 110 = .ok (.invokestatic 73, 3) := by decide +kernel
theorem dX6_isField_113 : decode cX6_isField 113 = .ok (.ireturn, 1) := by decide +kernel
theorem dX6_isField_114 : decode cX6_isField 114 = .ok (.iload_n 3, 1) := by decide +kernel
theorem dX6_isField_115 : decode cX6_isField 115 = .ok (.iconst 0, 1) := by decide +kernel
theorem dX6_isField_116 : decode cX6_isField 116 = .ok (.iconst 1, 1) := by decide +kernel
theorem dX6_isField_117 : decode cX6_isField 117 = .ok (.invokestatic 73, 3) := by decide +kernel
theorem dX6_isField_120 : decode cX6_isField 120 = .ok (.ireturn, 1) := by decide +kernel
theorem dX6_isField_121 : decode cX6_isField 121 = .ok (.iload_n 3, 1) := by decide +kernel
theorem dX6_isField_122 : decode cX6_isField 122 = .ok (.iconst 0, 1) := by decide +kernel
theorem dX6_isField_123 : decode cX6_isField 123 = .ok (.sipush 9999, 3) := by decide +kernel
theorem dX6_isField_126 : decode cX6_isField 126 = .ok (.invokestatic 73, 3) := by decide +kernel
theorem dX6_isField_129 : decode cX6_isField 129 = .ok (.ireturn, 1) := by decide +kernel
theorem dX6_isField_130 : decode cX6_isField 130 = .ok (.iconst 0, 1) := by decide +kernel
theorem dX6_isField_131 : decode cX6_isField 131 = .ok (.ireturn, 1) := by decide +kernel
theorem dX6_change_0 : decode cX6_change 0 = .ok (.aload_n 0, 1) := by decide +kernel
theorem dX6_change_1 : decode cX6_change 1 = .ok (.iload_n 1, 1) := by decide +kernel
theorem dX6_change_2 : decode cX6_change 2 = .ok (.invokevirtual 116, 3) := by decide +kernel
theorem dX6_change_5 : decode cX6_change 5 = .ok (.ifCond .eq 26, 3) := by decide +kernel
theorem dX6_change_8 : decode cX6_change 8 = .ok (.aload_n 0, 1) := by decide +kernel
theorem dX6_change_9 : decode cX6_change 9 = .ok (.iload_n 1, 1) := by decide +kernel
theorem dX6_change_10 : decode cX6_change 10 = .ok (.iload_n 2, 1) := by decide +kernel
theorem dX6_change_11 : decode cX6_change 11 = .ok (.iload_n 3, 1) := by decide +kernel
theorem dX6_change_12 : decode cX6_change 12 = .ok (.invokevirtual 122, 3) := by decide +kernel
theorem dX6_change_15 : decode cX6_change 15 = .ok (.ifCond .eq 16, 3) := by decide +kernel
theorem dX6_change_18 : decode cX6_change 18 = .ok (.aload_n 0, 1) := by decide +kernel
theorem dX6_change_19 : decode cX6_change 19 = .ok (.iload_n 1, 1) := by decide +kernel
theorem dX6_change_20 : decode cX6_change 20 = .ok (.iload_n 2, 1) := by decide +kernel
theorem dX6_change_21 : decode cX6_change 21 = .ok (.invokestatic 77, 3) := by decide +kernel
theorem dX6_change_24 : decode cX6_change 24 = .ok (.iload_n 3, 1) := by decide +kernel
