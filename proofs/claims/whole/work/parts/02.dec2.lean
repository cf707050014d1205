theorem dX6_change_25 : decode cX6_change 25 = .ok (.invokevirtual 125, 3) := by decide +kernel
theorem dX6_change_28 : decode cX6_change 28 = .ok (.goto 9, 3) := by decide +kernel
theorem dX6_change_31 : decode cX6_change 31 = .ok (.aload_n 0, 1) := by decide +kernel
theorem dX6_change_32 : decode cX6_change 32 = .ok (.ldc 63, 2) := by decide +kernel
theorem dX6_change_34 : decode cX6_change 34 = .ok (.invokevirtual 69, 3) := by decide +kernel
theorem dX6_change_37 : decode cX6_change 37 = .ok (.ireturn, 1) := by decide +kernel
theorem dX6_answerers_0 : decode cX6_answerers 0 = .ok (.aload_n 0, 1) := by decide +kernel
theorem dX6_answerers_1 : decode cX6_answerers 1 = .ok (.iload_n 1, 1) := by decide +kernel
theorem dX6_answerers_2 : decode cX6_answerers 2 = .ok (.invokevirtual 116, 3) := by decide +kernel
theorem dX6_answerers_5 : decode cX6_answerers 5 = .ok (.ifCond .ne 10, 3) := by decide +kernel
theorem dX6_answerers_8 : decode cX6_answerers 8 = .ok (.aload_n 0, 1) := by decide +kernel
theorem dX6_answerers_9 : decode cX6_answerers 9 = .ok (.ldc 63, 2) := by decide +kernel
theorem dX6_answerers_11 : decode cX6_answerers 11 = .ok (.invokevirtual 69, 3) := by decide +kernel
theorem dX6_answerers_14 : decode cX6_answerers 14 = .ok (.ireturn, 1) := by decide +kernel
theorem dX6_answerers_15 : decode cX6_answerers 15 = .ok (.iconst 0, 1) := by decide +kernel
theorem dX6_answerers_16 : decode cX6_answerers 16 = .ok (.istore_n 2, 1) := by decide +kernel
theorem dX6_answerers_17 : decode cX6_answerers 17 = .ok (.iconst 0, 1) := by decide +kernel
theorem dX6_answerers_18 : decode cX6_answerers 18 = .ok (.istore_n 3, 1) := by decide +kernel
theorem dX6_answerers_19 : decode cX6_answerers 19 = .ok (.iload_n 3, 1) := by decide +kernel
theorem dX6_answerers_20 : decode cX6_answerers 20 = .ok (.aload_n 0, 1) := by decide +kernel
theorem dX6_answerers_21 : decode cX6_answerers 21 = .ok (.getfield 9, 3) := by decide +kernel
theorem dX6_answerers_24 : decode cX6_answerers 24 = .ok (.iconst 1, 1) := by decide +kernel
theorem dX6_answerers_25 : decode cX6_answerers 25 = .ok (.iaload, 1) := by decide +kernel
theorem dX6_answerers_26 : decode cX6_answerers 26 = .ok (.if_icmp .ge 29, 3) := by decide +kernel
theorem dX6_answerers_29 : decode cX6_answerers 29 = .ok (.iload_n 2, 1) := by decide +kernel
theorem dX6_answerers_30 : decode cX6_answerers 30 = .ok (.aload_n 0, 1) := by decide +kernel
theorem dX6_answerers_31 : decode cX6_answerers 31 = .ok (.iload_n 3, 1) := by decide +kernel
theorem dX6_answerers_32 : decode cX6_answerers 32 = .ok (.iconst 2, 1) := by decide +kernel
theorem dX6_answerers_33 : decode cX6_answerers 33 = .ok (.invokevirtual 92, 3) := by decide +kernel
theorem dX6_answerers_36 : decode cX6_answerers 36 = .ok (.iload_n 1, 1) := by decide +kernel
theorem dX6_answerers_37 : decode cX6_answerers 37 = .ok (.if_icmp .ne 9, 3) := by decide +kernel
theorem dX6_answerers_40 : decode cX6_answerers 40 = .ok (.iconst 1, 1) := by decide +kernel
theorem dX6_answerers_41 : decode cX6_answerers 41 = .ok (.iload_n 3, 1) := by decide +kernel
theorem dX6_answerers_42 : decode cX6_answerers 42 = .ok (.ishl, 1) := by decide +kernel
theorem dX6_answerers_43 : decode cX6_answerers 43 = .ok (.goto 4, 3) := by decide +kernel
theorem dX6_answerers_46 : decode cX6_answerers 46 = .ok (.iconst 0, 1) := by decide +kernel
theorem dX6_answerers_47 : decode cX6_answerers 47 = .ok (.ior, 1) := by decide +kernel
theorem dX6_answerers_48 : decode cX6_answerers 48 = .ok (.istore_n 2, 1) := by decide +kernel
theorem dX6_answerers_49 : decode cX6_answerers 49 = .ok (.iinc 3 1, 3) := by decide +kernel
theorem dX6_answerers_52 : decode cX6_answerers 52 = .ok (.goto (-33), 3) := by decide +kernel
theorem dX6_answerers_55 : decode cX6_answerers 55 = .ok (.iload_n 2, 1) := by decide +kernel
theorem dX6_answerers_56 : decode cX6_answerers 56 = .ok (.ireturn, 1) := by decide +kernel
theorem dX6_begins_0 : decode cX6_begins 0 = .ok (.aload_n 0, 1) := by decide +kernel
theorem dX6_begins_1 : decode cX6_begins 1 = .ok (.getfield 9, 3) := by decide +kernel
theorem dX6_begins_4 : decode cX6_begins 4 = .ok (.iload_n 1, 1) := by decide +kernel
theorem dX6_begins_5 : decode cX6_begins 5 = .ok (.bipush 7, 2) := by decide +kernel
theorem dX6_begins_7 : decode cX6_begins 7 = .ok (.invokestatic 77, 3) := by decide +kernel
theorem dX6_begins_10 : decode cX6_begins 10 = .ok (.bipush 99, 2) := by decide +kernel
theorem dX6_begins_12 : decode cX6_begins 12 = .ok (.aload_n 0, 1) := by decide +kernel
theorem dX6_begins_13 : decode cX6_begins 13 = .ok (.iload_n 1, 1) := by decide +kernel
theorem dX6_begins_14 : decode cX6_begins 14 = .ok (.invokevirtual 107, 3) := by decide +kernel
theorem dX6_begins_17 : decode cX6_begins 17 = .ok (.invokestatic 128, 3) := by decide +kernel
theorem dX6_begins_20 : decode cX6_begins 20 = .ok (.iastore, 1) := by decide +kernel
theorem dX6_begins_21 : decode cX6_begins 21 = .ok (.aload_n 0, 1) := by decide +kernel
theorem dX6_begins_22 : decode cX6_begins 22 = .ok (.getfield 9, 3) := by decide +kernel
theorem dX6_begins_25 : decode cX6_begins 25 = .ok (.iload_n 1, 1) := by decide +kernel
theorem dX6_begins_26 : decode cX6_begins 26 = .ok (.bipush 8, 2) := by decide +kernel
theorem dX6_begins_28 : decode cX6_begins 28 = .ok (.invokestatic 77, 3) := by decide +kernel
theorem dX6_begins_31 : decode cX6_begins 31 = .ok (.iconst 0, 1) := by decide +kernel
theorem dX6_begins_32 : decode cX6_begins 32 = .ok (.iastore, 1) := by decide +kernel
theorem dX6_begins_33 : decode cX6_begins 33 = .ok (.aload_n 0, 1) := by decide +kernel
theorem dX6_begins_34 : decode cX6_begins 34 = .ok (.iload_n 1, 1) := by decide +kernel
theorem dX6_begins_35 : decode cX6_begins 35 = .ok (.bipush 7, 2) := by decide +kernel
theorem dX6_begins_37 : decode cX6_begins 37 = .ok (.invokevirtual 92, 3) := by decide +kernel
theorem dX6_begins_40 : decode cX6_begins 40 = .ok (.ireturn, 1) := by decide +kernel
theorem dX6_strike_0 : decode cX6_strike 0 = .ok (.aload_n 0, 1) := by decide +kernel
theorem dX6_strike_1 : decode cX6_strike 1 = .ok (.iload_n 1, 1) := by decide +kernel
theorem dX6_strike_2 : decode cX6_strike 2 = .ok (.invokevirtual 116, 3) := by decide +kernel
theorem dX6_strike_5 : decode cX6_strike 5 = .ok (.ifCond .ne 10, 3) := by decide +kernel
theorem dX6_strike_8 : decode cX6_strike 8 = .ok (.aload_n 0, 1) := by decide +kernel
theorem dX6_strike_9 : decode cX6_strike 9 = .ok (.ldc 63, 2) := by decide +kernel
theorem dX6_strike_11 : decode cX6_strike 11 = .ok (.invokevirtual 69, 3) := by decide +kernel
theorem dX6_strike_14 : decode cX6_strike 14 = .ok (.ireturn, 1) := by decide +kernel
theorem dX6_strike_15 : decode cX6_strike 15 = .ok (.aload_n 0, 1) := by decide +kernel
theorem dX6_strike_16 : decode cX6_strike 16 = .ok (.iload_n 1, 1) := by decide +kernel
theorem dX6_strike_17 : decode cX6_strike 17 = .ok (.invokevirtual 95, 3) := by decide +kernel
theorem dX6_strike_20 : decode cX6_strike 20 = .ok (.ifCond .eq 12, 3) := by decide +kernel
theorem dX6_strike_23 : decode cX6_strike 23 = .ok (.aload_n 0, 1) := by decide +kernel
theorem dX6_strike_24 : decode cX6_strike 24 = .ok (.ldc 133, 2) := by decide +kernel
theorem dX6_strike_26 : decode cX6_strike 26 = .ok (.invokevirtual 69, 3) := by decide +kernel
theorem dX6_strike_29 : decode cX6_strike 29 = .ok (.goto 8, 3) := by decide +kernel
theorem dX6_strike_32 : decode cX6_strike 32 = .ok (.aload_n 0, 1) := by decide +kernel
theorem dX6_strike_33 : decode cX6_strike 33 = .ok (.iload_n 1, 1) := by decide +kernel
theorem dX6_strike_34 : decode cX6_strike 34 = .ok (.invokevirtual 134, 3) := by decide +kernel
theorem dX6_strike_37 : decode cX6_strike 37 = .ok (.ireturn, 1) := by decide +kernel
theorem dX6_more_0 : decode cX6_more 0 = .ok (.aload_n 0, 1) := by decide +kernel
theorem dX6_more_1 : decode cX6_more 1 = .ok (.getfield 9, 3) := by decide +kernel
theorem dX6_more_4 : decode cX6_more 4 = .ok (.iload_n 1, 1) := by decide +kernel
theorem dX6_more_5 : decode cX6_more 5 = .ok (.iload_n 3, 1) := by decide +kernel
theorem dX6_more_6 : decode cX6_more 6 = .ok (.aload_n 0, 1) := by decide +kernel
theorem dX6_more_7 : decode cX6_more 7 = .ok (.getfield 9, 3) := by decide +kernel
theorem dX6_more_10 : decode cX6_more 10 = .ok (.iload_n 1, 1) := by decide +kernel
theorem dX6_more_11 : decode cX6_more 11 = .ok (.iaload, 1) := by decide +kernel
theorem dX6_more_12 : decode cX6_more 12 = .ok (.iload_n 2, 1) := by decide +kernel
theorem dX6_more_13 : decode cX6_more 13 = .ok (.iadd, 1) := by decide +kernel
theorem dX6_more_14 : decode cX6_more 14 = .ok (.invokestatic 128, 3) := by decide +kernel
theorem dX6_more_17 : decode cX6_more 17 = .ok (.iastore, 1) := by decide +kernel
theorem dX6_more_18 : decode cX6_more 18 = .ok (.return_, 1) := by decide +kernel
theorem dX6_ended_0 : decode cX6_ended 0 = .ok (.iconst 0, 1) := by decide +kernel
theorem dX6_ended_1 : decode cX6_ended 1 = .ok (.istore_n 1, 1) := by decide +kernel
theorem dX6_ended_2 : decode cX6_ended 2 = .ok (.iconst 0, 1) := by decide +kernel
theorem dX6_ended_3 : decode cX6_ended 3 = .ok (.istore_n 2, 1) := by decide +kernel
theorem dX6_ended_4 : decode cX6_ended 4 = .ok (.iload_n 2, 1) := by decide +kernel
theorem dX6_ended_5 : decode cX6_ended 5 = .ok (.aload_n 0, 1) := by decide +kernel
theorem dX6_ended_6 : decode cX6_ended 6 = .ok (.getfield 9, 3) := by decide +kernel
theorem dX6_ended_9 : decode cX6_ended 9 = .ok (.iconst 1, 1) := by decide +kernel
theorem dX6_ended_10 : decode cX6_ended 10 = .ok (.iaload, 1) := by decide +kernel
theorem dX6_ended_11 : decode cX6_ended 11 = .ok (.if_icmp .ge 52, 3) := by decide +kernel
theorem dX6_ended_14 : decode cX6_ended 14 = .ok (.aload_n 0, 1) := by decide +kernel
theorem dX6_ended_15 : decode cX6_ended 15 = .ok (.iload_n 2, 1) := by decide +kernel
theorem dX6_ended_16 : decode cX6_ended 16 = .ok (.invokevirtual 98, 3) := by decide +kernel
theorem dX6_ended_19 : decode cX6_ended 19 = .ok (.ifCond .eq 38, 3) := by decide +kernel
theorem dX6_ended_22 : decode cX6_ended 22 = .ok (.aload_n 0, 1) := by decide +kernel
theorem dX6_ended_23 : decode cX6_ended 23 = .ok (.getfield 9, 3) := by decide +kernel
theorem dX6_ended_26 : decode cX6_ended 26 = .ok (.iload_n 2, 1) := by decide +kernel
theorem dX6_ended_27 : decode cX6_ended 27 = .ok (.bipush 7, 2) := by decide +kernel
theorem dX6_ended_29 : decode cX6_ended 29 = .ok (.invokestatic 77, 3) := by decide +kernel
theorem dX6_ended_32 : decode cX6_ended 32 = .ok (.dup2, 1) := by decide +kernel
theorem dX6_ended_33 : decode cX6_ended 33 = .ok (.iaload, 1) := by decide +kernel
theorem dX6_ended_34 : decode cX6_ended 34 = .ok (.iconst 1, 1) := by decide +kernel
theorem dX6_ended_35 : decode cX6_ended 35 = .ok (.isub, 1) := by decide +kernel
theorem dX6_ended_36 : decode cX6_ended 36 = .ok (.iastore, 1) := by decide +kernel
theorem dX6_ended_37 : decode cX6_ended 37 = .ok (.iload_n 1, 1) := by decide +kernel
theorem dX6_ended_38 : decode cX6_ended 38 = .ok (.aload_n 0, 1) := by decide +kernel
theorem dX6_ended_39 : decode cX6_ended 39 = .ok (.iload_n 2, 1) := by decide +kernel
theorem dX6_ended_40 : decode cX6_ended 40 = .ok (.bipush 7, 2) := by decide +kernel
theorem dX6_ended_42 : decode cX6_ended 42 = .ok (.invokevirtual 92, 3) := by decide +kernel
theorem dX6_ended_45 : decode cX6_ended 45 = .ok (.ifCond .ne 9, 3) := by decide +kernel
theorem dX6_ended_48 : decode cX6_ended 48 = .ok (.iconst 1, 1) := by decide +kernel
theorem dX6_ended_49 : decode cX6_ended 49 = .ok (.iload_n 2, 1) := by decide +kernel
theorem dX6_ended_50 : decode cX6_ended 50 = .ok (.ishl, 1) := by decide +kernel
theorem dX6_ended_51 : decode cX6_ended 51 = .ok (.goto 4, 3) := by decide +kernel
theorem dX6_ended_54 : decode cX6_ended 54 = .ok (.iconst 0, 1) := by decide +kernel
theorem dX6_ended_55 : decode cX6_ended 55 = .ok (.ior, 1) := by decide +kernel
theorem dX6_ended_56 : decode cX6_ended 56 = .ok (.istore_n 1, 1) := by decide +kernel
theorem dX6_ended_57 : decode cX6_ended 57 = .ok (.iinc 2 1, 3) := by decide +kernel
theorem dX6_ended_60 : decode cX6_ended 60 = .ok (.goto (-56), 3) := by decide +kernel
theorem dX6_ended_63 : decode cX6_ended 63 = .ok (.iload_n 1, 1) := by decide +kernel
theorem dX6_ended_64 : decode cX6_ended 64 = .ok (.ireturn, 1) := by decide +kernel
theorem dX6_comesIn_0 : decode cX6_comesIn 0 = .ok (.aload_n 0, 1) := by decide +kernel
theorem dX6_comesIn_1 : decode cX6_comesIn 1 = .ok (.iload_n 1, 1) := by decide +kernel
theorem dX6_comesIn_2 : decode cX6_comesIn 2 = .ok (.iconst 2, 1) := by decide +kernel
theorem dX6_comesIn_3 : decode cX6_comesIn 3 = .ok (.invokevirtual 92, 3) := by decide +kernel
theorem dX6_comesIn_6 : decode cX6_comesIn 6 = .ok (.istore_n 3, 1) := by decide +kernel
theorem dX6_comesIn_7 : decode cX6_comesIn 7 = .ok (.aload_n 0, 1) := by decide +kernel
theorem dX6_comesIn_8 : decode cX6_comesIn 8 = .ok (.iload_n 1, 1) := by decide +kernel
theorem dX6_comesIn_9 : decode cX6_comesIn 9 = .ok (.bipush 8, 2) := by decide +kernel
theorem dX6_comesIn_11 : decode cX6_comesIn 11 = .ok (.invokevirtual 92, 3) := by decide +kernel
theorem dX6_comesIn_14 : decode cX6_comesIn 14 = .ok (.ifCond .le 37, 3) := by decide +kernel
theorem dX6_comesIn_17 : decode cX6_comesIn 17 = .ok (.aload_n 0, 1) := by decide +kernel
theorem dX6_comesIn_18 : decode cX6_comesIn 18 = .ok (.getfield 9, 3) := by decide +kernel
theorem dX6_comesIn_21 : decode cX6_comesIn 21 = .ok (.iload_n 1, 1) := by decide +kernel
theorem dX6_comesIn_22 : decode cX6_comesIn 22 = .ok (.bipush 8, 2) := by decide +kernel
theorem dX6_comesIn_24 : decode cX6_comesIn 24 = .ok (.invokestatic 77, 3) := by decide +kernel
theorem dX6_comesIn_27 : decode cX6_comesIn 27 = .ok (.dup2, 1) := by decide +kernel
theorem dX6_comesIn_28 : decode cX6_comesIn 28 = .ok (.iaload, 1) := by decide +kernel
theorem dX6_comesIn_29 : decode cX6_comesIn 29 = .ok (.iconst 1, 1) := by decide +kernel
theorem dX6_comesIn_30 : decode cX6_comesIn 30 = .ok (.isub, 1) := by decide +kernel
theorem dX6_comesIn_31 : decode cX6_comesIn 31 = .ok (.iastore, 1) := by decide +kernel
theorem dX6_comesIn_32 : decode cX6_comesIn 32 = .ok (.aload_n 0, 1) := by decide +kernel
theorem dX6_comesIn_33 : decode cX6_comesIn 33 = .ok (.iload_n 1, 1) := by decide +kernel
theorem dX6_comesIn_34 : decode cX6_comesIn 34 = .ok (.bipush 8, 2) := by decide +kernel
theorem dX6_comesIn_36 : decode cX6_comesIn 36 = .ok (.invokevirtual 92, 3) := by decide +kernel
theorem dX6_comesIn_39 : decode cX6_comesIn 39 = .ok (.ifCond .ne 77, 3) := by decide +kernel
theorem dX6_comesIn_42 : decode cX6_comesIn 42 = .ok (.aload_n 0, 1) := by decide +kernel
theorem dX6_comesIn_43 : decode cX6_comesIn 43 = .ok (.iload_n 1, 1) := by decide +kernel
theorem dX6_comesIn_44 : decode cX6_comesIn 44 = .ok (.invokevirtual 134, 3) := by decide +kernel
theorem dX6_comesIn_47 : decode cX6_comesIn 47 = .ok (.pop, 1) := by decide +kernel
theorem dX6_comesIn_48 : decode cX6_comesIn 48 = .ok (.goto 68, 3) := by decide +kernel
theorem dX6_comesIn_51 : decode cX6_comesIn 51 = .ok (.iload_n 3, 1) := by decide +kernel
theorem dX6_comesIn_52 : decode cX6_comesIn 52 = .ok (.ifCond .lt 36, 3) := by decide +kernel
theorem dX6_comesIn_55 : decode cX6_comesIn 55 = .ok (.iload_n 2, 1) := by decide +kernel
theorem dX6_comesIn_56 : decode cX6_comesIn 56 = .ok (.iload_n 3, 1) := by decide +kernel
theorem dX6_comesIn_57 : decode cX6_comesIn 57 = .ok (.ishr, 1) := by decide +kernel
theorem dX6_comesIn_58 : decode cX6_comesIn 58 = .ok (.iconst 1, 1) := by decide +kernel
theorem dX6_comesIn_59 : decode cX6_comesIn 59 = .ok (.iand, 1) := by decide +kernel
theorem dX6_comesIn_60 : decode cX6_comesIn 60 = .ok (.iconst 1, 1) := by decide +kernel
theorem dX6_comesIn_61 : decode cX6_comesIn 61 = .ok (.if_icmp .ne 27, 3) := by decide +kernel
theorem dX6_comesIn_64 : decode cX6_comesIn 64 = .ok (.aload_n 0, 1) := by decide +kernel
theorem dX6_comesIn_65 : decode cX6_comesIn 65 = .ok (.getfield 9, 3) := by decide +kernel
theorem dX6_comesIn_68 : decode cX6_comesIn 68 = .ok (.iload_n 1, 1) := by decide +kernel
theorem dX6_comesIn_69 : decode cX6_comesIn 69 = .ok (.bipush 8, 2) := by decide +kernel
theorem dX6_comesIn_71 : decode cX6_comesIn 71 = .ok (.invokestatic 77, 3) := by decide +kernel
theorem dX6_comesIn_74 : decode cX6_comesIn 74 = .ok (.bipush 99, 2) := by decide +kernel
theorem dX6_comesIn_76 : decode cX6_comesIn 76 = .ok (.aload_n 0, 1) := by decide +kernel
theorem dX6_comesIn_77 : decode cX6_comesIn 77 = .ok (.iload_n 1, 1) := by decide +kernel
theorem dX6_comesIn_78 : decode cX6_comesIn 78 = .ok (.invokevirtual 104, 3) := by decide +kernel
theorem dX6_comesIn_81 : decode cX6_comesIn 81 = .ok (.invokestatic 128, 3) := by decide +kernel
theorem dX6_comesIn_84 : decode cX6_comesIn 84 = .ok (.iastore, 1) := by decide +kernel
theorem dX6_comesIn_85 : decode cX6_comesIn 85 = .ok (.goto 31, 3) := by decide +kernel
theorem dX6_comesIn_88 : decode cX6_comesIn 88 = .ok (.iload_n 3, 1) := by decide +kernel
theorem dX6_comesIn_89 : decode cX6_comesIn 89 = .ok (.ifCond .ge 27, 3) := by decide +kernel
theorem dX6_comesIn_92 : decode cX6_comesIn 92 = .ok (.aload_n 0, 1) := by decide +kernel
theorem dX6_comesIn_93 : decode cX6_comesIn 93 = .ok (.getfield 9, 3) := by decide +kernel
theorem dX6_comesIn_96 : decode cX6_comesIn 96 = .ok (.iconst 0, 1) := by decide +kernel
theorem dX6_comesIn_97 : decode cX6_comesIn 97 = .ok (.iaload, 1) := by decide +kernel
theorem dX6_comesIn_98 : decode cX6_comesIn 98 = .ok (.bipush 60, 2) := by decide +kernel
theorem dX6_comesIn_100 : decode cX6_comesIn 100 = .ok (.irem, 1) := by decide +kernel
theorem dX6_comesIn_101 : decode cX6_comesIn 101 = .ok (.aload_n 0, 1) := by decide +kernel
theorem dX6_comesIn_102 : decode cX6_comesIn 102 = .ok (.iload_n 1, 1) := by decide +kernel
theorem dX6_comesIn_103 : decode cX6_comesIn 103 = .ok (.iconst 1, 1) := by decide +kernel
theorem dX6_comesIn_104 : decode cX6_comesIn 104 = .ok (.invokevirtual 92, 3) := by decide +kernel
theorem dX6_comesIn_107 : decode cX6_comesIn 107 = .ok (.if_icmp .ne 9, 3) := by decide +kernel
theorem dX6_comesIn_110 : decode cX6_comesIn 110 = .ok (.aload_n 0, 1) := by decide +kernel
theorem dX6_comesIn_111 : decode cX6_comesIn 111 = .ok (.iload_n 1, 1) := by decide +kernel
theorem dX6_comesIn_112 : decode cX6_comesIn 112 = .ok (.invokevirtual 134, 3) := by decide +kernel
theorem dX6_comesIn_115 : decode cX6_comesIn 115 = .ok (.pop, 1) := by decide +kernel
theorem dX6_comesIn_116 : decode cX6_comesIn 116 = .ok (.return_, 1) := by decide +kernel
theorem dX6_sell_0 : decode cX6_sell 0 = .ok (.iconst 0, 1) := by decide +kernel
theorem dX6_sell_1 : decode cX6_sell 1 = .ok (.istore_n 1, 1) := by decide +kernel
theorem dX6_sell_2 : decode cX6_sell 2 = .ok (.iconst 0, 1) := by decide +kernel
theorem dX6_sell_3 : decode cX6_sell 3 = .ok (.istore_n 2, 1) := by decide +kernel
theorem dX6_sell_4 : decode cX6_sell 4 = .ok (.iload_n 2, 1) := by decide +kernel
theorem dX6_sell_5 : decode cX6_sell 5 = .ok (.aload_n 0, 1) := by decide +kernel
theorem dX6_sell_6 : decode cX6_sell 6 = .ok (.getfield 9, 3) := by decide +kernel
theorem dX6_sell_9 : decode cX6_sell 9 = .ok (.iconst 1, 1) := by decide +kernel
theorem dX6_sell_10 : decode cX6_sell 10 = .ok (.iaload, 1) := by decide +kernel
theorem dX6_sell_11 : decode cX6_sell 11 = .ok (.if_icmp .ge 50, 3) := by decide +kernel
theorem dX6_sell_14 : decode cX6_sell 14 = .ok (.aload_n 0, 1) := by decide +kernel
theorem dX6_sell_15 : decode cX6_sell 15 = .ok (.getfield 22, 3) := by decide +kernel
theorem dX6_sell_18 : decode cX6_sell 18 = .ok (.iload_n 2, 1) := by decide +kernel
theorem dX6_sell_19 : decode cX6_sell 19 = .ok (.aload_n 0, 1) := by decide +kernel
theorem dX6_sell_20 : decode cX6_sell 20 = .ok (.iload_n 2, 1) := by decide +kernel
theorem dX6_sell_21 : decode cX6_sell 21 = .ok (.invokevirtual 98, 3) := by decide +kernel
theorem dX6_sell_24 : decode cX6_sell 24 = .ok (.ifCond .eq 11, 3) := by decide +kernel
theorem dX6_sell_27 : decode cX6_sell 27 = .ok (.aload_n 0, 1) := by decide +kernel
theorem dX6_sell_28 : decode cX6_sell 28 = .ok (.iload_n 2, 1) := by decide +kernel
theorem dX6_sell_29 : decode cX6_sell 29 = .ok (.invokevirtual 110, 3) := by decide +kernel
theorem dX6_sell_32 : decode cX6_sell 32 = .ok (.goto 4, 3) := by decide +kernel
theorem dX6_sell_35 : decode cX6_sell 35 = .ok (.iconst 0, 1) := by decide +kernel
theorem dX6_sell_36 : decode cX6_sell 36 = .ok (.iastore, 1) := by decide +kernel
theorem dX6_sell_37 : decode cX6_sell 37 = .ok (.iload_n 1, 1) := by decide +kernel
theorem dX6_sell_38 : decode cX6_sell 38 = .ok (.ifCond .ne 11, 3) := by decide +kernel
theorem dX6_sell_41 : decode cX6_sell 41 = .ok (.aload_n 0, 1) := by decide +kernel
theorem dX6_sell_42 : decode cX6_sell 42 = .ok (.iload_n 2, 1) := by decide +kernel
theorem dX6_sell_43 : decode cX6_sell 43 = .ok (.invokevirtual 98, 3) := by decide +kernel
theorem dX6_sell_46 : decode cX6_sell 46 = .ok (.ifCond .eq 7, 3) := by decide +kernel
theorem dX6_sell_49 : decode cX6_sell 49 = .ok (.iconst 1, 1) := by decide +kernel
theorem dX6_sell_50 : decode cX6_sell 50 = .ok (.goto 4, 3) := by decide +kernel
theorem dX6_sell_53 : decode cX6_sell 53 = .ok (.iconst 0, 1) := by decide +kernel
theorem dX6_sell_54 : decode cX6_sell 54 = .ok (.istore_n 1, 1) := by decide +kernel
theorem dX6_sell_55 : decode cX6_sell 55 = .ok (.iinc 2 1, 3) := by decide +kernel
theorem dX6_sell_58 : decode cX6_sell 58 = .ok (.goto (-54), 3) := by decide +kernel
theorem dX6_sell_61 : decode cX6_sell 61 = .ok (.iconst 0, 1) := by decide +kernel
theorem dX6_sell_62 : decode cX6_sell 62 = .ok (.istore_n 2, 1) := by decide +kernel
theorem dX6_sell_63 : decode cX6_sell 63 = .ok (.iload_n 2, 1) := by decide +kernel
theorem dX6_sell_64 : decode cX6_sell 64 = .ok (.aload_n 0, 1) := by decide +kernel
theorem dX6_sell_65 : decode cX6_sell 65 = .ok (.getfield 9, 3) := by decide +kernel
theorem dX6_sell_68 : decode cX6_sell 68 = .ok (.iconst 1, 1) := by decide +kernel
theorem dX6_sell_69 : decode cX6_sell 69 = .ok (.iaload, 1) := by decide +kernel
theorem dX6_sell_70 : decode cX6_sell 70 = .ok (.if_icmp .ge 28, 3) := by decide +kernel
theorem dX6_sell_73 : decode cX6_sell 73 = .ok (.aload_n 0, 1) := by decide +kernel
theorem dX6_sell_74 : decode cX6_sell 74 = .ok (.iload_n 2, 1) := by decide +kernel
theorem dX6_sell_75 : decode cX6_sell 75 = .ok (.bipush 9, 2) := by decide +kernel
theorem dX6_sell_77 : decode cX6_sell 77 = .ok (.invokestatic 77, 3) := by decide +kernel
theorem dX6_sell_80 : decode cX6_sell 80 = .ok (.aload_n 0, 1) := by decide +kernel
theorem dX6_sell_81 : decode cX6_sell 81 = .ok (.getfield 22, 3) := by decide +kernel
theorem dX6_sell_84 : decode cX6_sell 84 = .ok (.iload_n 2, 1) := by decide +kernel
theorem dX6_sell_85 : decode cX6_sell 85 = .ok (.iaload, 1) := by decide +kernel
theorem dX6_sell_86 : decode cX6_sell 86 = .ok (.sipush 9999, 3) := by decide +kernel
theorem dX6_sell_89 : decode cX6_sell 89 = .ok (.invokevirtual 137, 3) := by decide +kernel
theorem dX6_sell_92 : decode cX6_sell 92 = .ok (.iinc 2 1, 3) := by decide +kernel
theorem dX6_sell_95 : decode cX6_sell 95 = .ok (.goto (-32), 3) := by decide +kernel
theorem dX6_sell_98 : decode cX6_sell 98 = .ok (.aload_n 0, 1) := by decide +kernel
theorem dX6_sell_99 : decode cX6_sell 99 = .ok (.getfield 9, 3) := by decide +kernel
theorem dX6_sell_102 : decode cX6_sell 102 = .ok (.iconst 3, 1) := by decide +kernel
theorem dX6_sell_103 : decode cX6_sell 103 = .ok (.iload_n 1, 1) := by decide +kernel
theorem dX6_sell_104 : decode cX6_sell 104 = .ok (.ifCond .eq 7, 3) := by decide +kernel
theorem dX6_sell_107 : decode cX6_sell 107 = .ok (.iconst 0, 1) := by decide +kernel
theorem dX6_sell_108 : decode cX6_sell 108 = .ok (.goto 16, 3) := by decide +kernel
theorem dX6_sell_111 : decode cX6_sell 111 = .ok (.ldc 141, 2) := by decide +kernel
theorem dX6_sell_113 : decode cX6_sell 113 = .ok (.aload_n 0, 1) := by decide +kernel
theorem dX6_sell_114 : decode cX6_sell 114 = .ok (.getfield 9, 3) := by decide +kernel
theorem dX6_sell_117 : decode cX6_sell 117 = .ok (.iconst 3, 1) := by decide +kernel
theorem dX6_sell_118 : decode cX6_sell 118 = .ok (.iaload, 1) := by decide +kernel
theorem dX6_sell_119 : decode cX6_sell 119 = .ok (.iconst 1, 1) := by decide +kernel
theorem dX6_sell_120 : decode cX6_sell 120 = .ok (.iadd, 1) := by decide +kernel
theorem dX6_sell_121 : decode cX6_sell 121 = .ok (.invokestatic 128, 3) := by decide +kernel
theorem dX6_sell_124 : decode cX6_sell 124 = .ok (.iastore, 1) := by decide +kernel
theorem dX6_sell_125 : decode cX6_sell 125 = .ok (.return_, 1) := by decide +kernel
theorem dX6_ages_0 : decode cX6_ages 0 = .ok (.aload_n 0, 1) := by decide +kernel
theorem dX6_ages_1 : decode cX6_ages 1 = .ok (.iload_n 1, 1) := by decide +kernel
theorem dX6_ages_2 : decode cX6_ages 2 = .ok (.invokevirtual 113, 3) := by decide +kernel
theorem dX6_ages_5 : decode cX6_ages 5 = .ok (.istore_n 2, 1) := by decide +kernel
theorem dX6_ages_6 : decode cX6_ages 6 = .ok (.aload_n 0, 1) := by decide +kernel
theorem dX6_ages_7 : decode cX6_ages 7 = .ok (.getfield 9, 3) := by decide +kernel
theorem dX6_ages_10 : decode cX6_ages 10 = .ok (.iload_n 1, 1) := by decide +kernel
theorem dX6_ages_11 : decode cX6_ages 11 = .ok (.iconst 3, 1) := by decide +kernel
theorem dX6_ages_12 : decode cX6_ages 12 = .ok (.invokestatic 77, 3) := by decide +kernel
theorem dX6_ages_15 : decode cX6_ages 15 = .ok (.iconst 0, 1) := by decide +kernel
theorem dX6_ages_16 : decode cX6_ages 16 = .ok (.bipush 99, 2) := by decide +kernel
theorem dX6_ages_18 : decode cX6_ages 18 = .ok (.aload_n 0, 1) := by decide +kernel
theorem dX6_ages_19 : decode cX6_ages 19 = .ok (.iload_n 1, 1) := by decide +kernel
theorem dX6_ages_20 : decode cX6_ages 20 = .ok (.iconst 3, 1) := by decide +kernel
theorem dX6_ages_21 : decode cX6_ages 21 = .ok (.invokevirtual 92, 3) := by decide +kernel
theorem dX6_ages_24 : decode cX6_ages 24 = .ok (.iload_n 2, 1) := by decide +kernel
theorem dX6_ages_25 : decode cX6_ages 25 = .ok (.isub, 1) := by decide +kernel
theorem dX6_ages_26 : decode cX6_ages 26 = .ok (.invokestatic 128, 3) := by decide +kernel
theorem dX6_ages_29 : decode cX6_ages 29 = .ok (.invokestatic 142, 3) := by decide +kernel
theorem dX6_ages_32 : decode cX6_ages 32 = .ok (.iastore, 1) := by decide +kernel
theorem dX6_ages_33 : decode cX6_ages 33 = .ok (.aload_n 0, 1) := by decide +kernel
theorem dX6_ages_34 : decode cX6_ages 34 = .ok (.iload_n 1, 1) := by decide +kernel
theorem dX6_ages_35 : decode cX6_ages 35 = .ok (.iconst 4, 1) := by decide +kernel
theorem dX6_ages_36 : decode cX6_ages 36 = .ok (.invokestatic 77, 3) := by decide +kernel
theorem dX6_ages_39 : decode cX6_ages 39 = .ok (.iconst 1, 1) := by decide +kernel
theorem dX6_ages_40 : decode cX6_ages 40 = .ok (.bipush 120, 2) := by decide +kernel
theorem dX6_ages_42 : decode cX6_ages 42 = .ok (.invokevirtual 137, 3) := by decide +kernel
theorem dX6_ages_45 : decode cX6_ages 45 = .ok (.return_, 1) := by decide +kernel
theorem dX6_day_0 : decode cX6_day 0 = .ok (.aload_n 0, 1) := by decide +kernel
theorem dX6_day_1 : decode cX6_day 1 = .ok (.invokevirtual 145, 3) := by decide +kernel
theorem dX6_day_4 : decode cX6_day 4 = .ok (.istore_n 1, 1) := by decide +kernel
theorem dX6_day_5 : decode cX6_day 5 = .ok (.iconst 0, 1) := by decide +kernel
theorem dX6_day_6 : decode cX6_day 6 = .ok (.istore_n 2, 1) := by decide +kernel
theorem dX6_day_7 : decode cX6_day 7 = .ok (.iload_n 2, 1) := by decide +kernel
theorem dX6_day_8 : decode cX6_day 8 = .ok (.aload_n 0, 1) := by decide +kernel
theorem dX6_day_9 : decode cX6_day 9 = .ok (.getfield 9, 3) := by decide +kernel
theorem dX6_day_12 : decode cX6_day 12 = .ok (.iconst 1, 1) := by decide +kernel
theorem dX6_day_13 : decode cX6_day 13 = .ok (.iaload, 1) := by decide +kernel
theorem dX6_day_14 : decode cX6_day 14 = .ok (.if_icmp .ge 41, 3) := by decide +kernel
theorem dX6_day_17 : decode cX6_day 17 = .ok (.aload_n 0, 1) := by decide +kernel
theorem dX6_day_18 : decode cX6_day 18 = .ok (.iload_n 2, 1) := by decide +kernel
theorem dX6_day_19 : decode cX6_day 19 = .ok (.invokevirtual 95, 3) := by decide +kernel
theorem dX6_day_22 : decode cX6_day 22 = .ok (.ifCond .ne 27, 3) := by decide +kernel
theorem dX6_day_25 : decode cX6_day 25 = .ok (.aload_n 0, 1) := by decide +kernel
theorem dX6_day_26 : decode cX6_day 26 = .ok (.iload_n 2, 1) := by decide +kernel
theorem dX6_day_27 : decode cX6_day 27 = .ok (.bipush 7, 2) := by decide +kernel
theorem dX6_day_29 : decode cX6_day 29 = .ok (.invokevirtual 92, 3) := by decide +kernel
theorem dX6_day_32 : decode cX6_day 32 = .ok (.ifCond .ne 17, 3) := by decide +kernel
theorem dX6_day_35 : decode cX6_day 35 = .ok (.iload_n 1, 1) := by decide +kernel
theorem dX6_day_36 : decode cX6_day 36 = .ok (.iload_n 2, 1) := by decide +kernel
theorem dX6_day_37 : decode cX6_day 37 = .ok (.ishr, 1) := by decide +kernel
theorem dX6_day_38 : decode cX6_day 38 = .ok (.iconst 1, 1) := by decide +kernel
theorem dX6_day_39 : decode cX6_day 39 = .ok (.iand, 1) := by decide +kernel
theorem dX6_day_40 : decode cX6_day 40 = .ok (.ifCond .ne 9, 3) := by decide +kernel
theorem dX6_day_43 : decode cX6_day 43 = .ok (.aload_n 0, 1) := by decide +kernel
theorem dX6_day_44 : decode cX6_day 44 = .ok (.iload_n 2, 1) := by decide +kernel
theorem dX6_day_45 : decode cX6_day 45 = .ok (.iload_n 1, 1) := by decide +kernel
theorem dX6_day_46 : decode cX6_day 46 = .ok (.invokevirtual 149, 3) := by decide +kernel
theorem dX6_day_49 : decode cX6_day 49 = .ok (.iinc 2 1, 3) := by decide +kernel
theorem dX6_day_52 : decode cX6_day 52 = .ok (.goto (-45), 3) := by decide +kernel
theorem dX6_day_55 : decode cX6_day 55 = .ok (.aload_n 0, 1) := by decide +kernel
theorem dX6_day_56 : decode cX6_day 56 = .ok (.invokevirtual 153, 3) := by decide +kernel
theorem dX6_day_59 : decode cX6_day 59 = .ok (.iconst 0, 1) := by decide +kernel
theorem dX6_day_60 : decode cX6_day 60 = .ok (.istore_n 2, 1) := by decide +kernel
theorem dX6_day_61 : decode cX6_day 61 = .ok (.iload_n 2, 1) := by decide +kernel
theorem dX6_day_62 : decode cX6_day 62 = .ok (.aload_n 0, 1) := by decide +kernel
theorem dX6_day_63 : decode cX6_day 63 = .ok (.getfield 9, 3) := by decide +kernel
theorem dX6_day_66 : decode cX6_day 66 = .ok (.iconst 1, 1) := by decide +kernel
theorem dX6_day_67 : decode cX6_day 67 = .ok (.iaload, 1) := by decide +kernel
theorem dX6_day_68 : decode cX6_day 68 = .ok (.if_icmp .ge 36, 3) := by decide +kernel
theorem dX6_day_71 : decode cX6_day 71 = .ok (.aload_n 0, 1) := by decide +kernel
theorem dX6_day_72 : decode cX6_day 72 = .ok (.getfield 9, 3) := by decide +kernel
theorem dX6_day_75 : decode cX6_day 75 = .ok (.iconst 0, 1) := by decide +kernel
theorem dX6_day_76 : decode cX6_day 76 = .ok (.iaload, 1) := by decide +kernel
theorem dX6_day_77 : decode cX6_day 77 = .ok (.bipush 60, 2) := by decide +kernel
theorem dX6_day_79 : decode cX6_day 79 = .ok (.irem, 1) := by decide +kernel
theorem dX6_day_80 : decode cX6_day 80 = .ok (.bipush 59, 2) := by decide +kernel
theorem dX6_day_82 : decode cX6_day 82 = .ok (.if_icmp .ne 22, 3) := by decide +kernel
theorem dX6_day_85 : decode cX6_day 85 = .ok (.aload_n 0, 1) := by decide +kernel
theorem dX6_day_86 : decode cX6_day 86 = .ok (.iload_n 2, 1) := by decide +kernel
theorem dX6_day_87 : decode cX6_day 87 = .ok (.invokevirtual 95, 3) := by decide +kernel
theorem dX6_day_90 : decode cX6_day 90 = .ok (.ifCond .ne 8, 3) := by decide +kernel
theorem dX6_day_93 : decode cX6_day 93 = .ok (.aload_n 0, 1) := by decide +kernel
theorem dX6_day_94 : decode cX6_day 94 = .ok (.iload_n 2, 1) := by decide +kernel
theorem dX6_day_95 : decode cX6_day 95 = .ok (.invokevirtual 156, 3) := by decide +kernel
theorem dX6_day_98 : decode cX6_day 98 = .ok (.iinc 2 1, 3) := by decide +kernel
theorem dX6_day_101 : decode cX6_day 101 = .ok (.goto (-40), 3) := by decide +kernel
theorem dX6_day_104 : decode cX6_day 104 = .ok (.aload_n 0, 1) := by decide +kernel
theorem dX6_day_105 : decode cX6_day 105 = .ok (.iconst 0, 1) := by decide +kernel
theorem dX6_day_106 : decode cX6_day 106 = .ok (.iconst 1, 1) := by decide +kernel
theorem dX6_day_107 : decode cX6_day 107 = .ok (.ldc 141, 2) := by decide +kernel
theorem dX6_day_109 : decode cX6_day 109 = .ok (.invokevirtual 137, 3) := by decide +kernel
theorem dX6_day_112 : decode cX6_day 112 = .ok (.return_, 1) := by decide +kernel
theorem dX6_daysGo_0 : decode cX6_daysGo 0 = .ok (.iconst 0, 1) := by decide +kernel
theorem dX6_daysGo_1 : decode cX6_daysGo 1 = .ok (.istore_n 2, 1) := by decide +kernel
theorem dX6_daysGo_2 : decode cX6_daysGo 2 = .ok (.iload_n 2, 1) := by decide +kernel
theorem dX6_daysGo_3 : decode cX6_daysGo 3 = .ok (.iload_n 1, 1) := by decide +kernel
theorem dX6_daysGo_4 : decode cX6_daysGo 4 = .ok (.if_icmp .ge 13, 3) := by decide +kernel
theorem dX6_daysGo_7 : decode cX6_daysGo 7 = .ok (.aload_n 0, 1) := by decide +kernel
theorem dX6_daysGo_8 : decode cX6_daysGo 8 = .ok (.invokevirtual 160, 3) := by decide +kernel
theorem dX6_daysGo_11 : decode cX6_daysGo 11 = .ok (.iinc 2 1, 3) := by decide +kernel
theorem dX6_daysGo_14 : decode cX6_daysGo 14 = .ok (.goto (-12), 3) := by decide +kernel
theorem dX6_daysGo_17 : decode cX6_daysGo 17 = .ok (.return_, 1) := by decide +kernel
theorem dX6_singing_0 : decode cX6_singing 0 = .ok (.iconst 0, 1) := by decide +kernel
theorem dX6_singing_1 : decode cX6_singing 1 = .ok (.istore_n 1, 1) := by decide +kernel
theorem dX6_singing_2 : decode cX6_singing 2 = .ok (.iconst 0, 1) := by decide +kernel
theorem dX6_singing_3 : decode cX6_singing 3 = .ok (.istore_n 2, 1) := by decide +kernel
theorem dX6_singing_4 : decode cX6_singing 4 = .ok (.iload_n 2, 1) := by decide +kernel
theorem dX6_singing_5 : decode cX6_singing 5 = .ok (.aload_n 0, 1) := by decide +kernel
theorem dX6_singing_6 : decode cX6_singing 6 = .ok (.getfield 9, 3) := by decide +kernel
theorem dX6_singing_9 : decode cX6_singing 9 = .ok (.iconst 1, 1) := by decide +kernel
theorem dX6_singing_10 : decode cX6_singing 10 = .ok (.iaload, 1) := by decide +kernel
theorem dX6_singing_11 : decode cX6_singing 11 = .ok (.if_icmp .ge 27, 3) := by decide +kernel
theorem dX6_singing_14 : decode cX6_singing 14 = .ok (.iload_n 1, 1) := by decide +kernel
theorem dX6_singing_15 : decode cX6_singing 15 = .ok (.aload_n 0, 1) := by decide +kernel
theorem dX6_singing_16 : decode cX6_singing 16 = .ok (.iload_n 2, 1) := by decide +kernel
theorem dX6_singing_17 : decode cX6_singing 17 = .ok (.invokevirtual 98, 3) := by decide +kernel
theorem dX6_singing_20 : decode cX6_singing 20 = .ok (.ifCond .eq 9, 3) := by decide +kernel
theorem dX6_singing_23 : decode cX6_singing 23 = .ok (.iconst 1, 1) := by decide +kernel
theorem dX6_singing_24 : decode cX6_singing 24 = .ok (.iload_n 2, 1) := by decide +kernel
theorem dX6_singing_25 : decode cX6_singing 25 = .ok (.ishl, 1) := by decide +kernel
theorem dX6_singing_26 : decode cX6_singing 26 = .ok (.goto 4, 3) := by decide +kernel
theorem dX6_singing_29 : decode cX6_singing 29 = .ok (.iconst 0, 1) := by decide +kernel
theorem dX6_singing_30 : decode cX6_singing 30 = .ok (.ior, 1) := by decide +kernel
theorem dX6_singing_31 : decode cX6_singing 31 = .ok (.istore_n 1, 1) := by decide +kernel
theorem dX6_singing_32 : decode cX6_singing 32 = .ok (.iinc 2 1, 3) := by decide +kernel
theorem dX6_singing_35 : decode cX6_singing 35 = .ok (.goto (-31), 3) := by decide +kernel
theorem dX6_singing_38 : decode cX6_singing 38 = .ok (.iload_n 1, 1) := by decide +kernel
theorem dX6_singing_39 : decode cX6_singing 39 = .ok (.ireturn, 1) := by decide +kernel
theorem dX6_go_0 : decode cX6_go 0 = .ok (.iload_n 1, 1) := by decide +kernel
theorem dX6_go_1 : decode cX6_go 1 = .ok (.iconst 1, 1) := by decide +kernel
theorem dX6_go_2 : decode cX6_go 2 = .ok (.bipush 60, 2) := by decide +kernel
theorem dX6_go_4 : decode cX6_go 4 = .ok (.invokestatic 73, 3) := by decide +kernel
theorem dX6_go_7 : decode cX6_go 7 = .ok (.ifCond .ne 10, 3) := by decide +kernel
theorem dX6_go_10 : decode cX6_go 10 = .ok (.aload_n 0, 1) := by decide +kernel
theorem dX6_go_11 : decode cX6_go 11 = .ok (.ldc 63, 2) := by decide +kernel
theorem dX6_go_13 : decode cX6_go 13 = .ok (.invokevirtual 69, 3) := by decide +kernel
theorem dX6_go_16 : decode cX6_go 16 = .ok (.ireturn, 1) := by decide +kernel
theorem dX6_go_17 : decode cX6_go 17 = .ok (.aload_n 0, 1) := by decide +kernel
theorem dX6_go_18 : decode cX6_go 18 = .ok (.getfield 9, 3) := by decide +kernel
theorem dX6_go_21 : decode cX6_go 21 = .ok (.iconst 0, 1) := by decide +kernel
theorem dX6_go_22 : decode cX6_go 22 = .ok (.iaload, 1) := by decide +kernel
theorem dX6_go_23 : decode cX6_go 23 = .ok (.iload_n 1, 1) := by decide +kernel
theorem dX6_go_24 : decode cX6_go 24 = .ok (.iadd, 1) := by decide +kernel
theorem dX6_go_25 : decode cX6_go 25 = .ok (.ldc 141, 2) := by decide +kernel
theorem dX6_go_27 : decode cX6_go 27 = .ok (.if_icmp .le 10, 3) := by decide +kernel
theorem dX6_go_30 : decode cX6_go 30 = .ok (.aload_n 0, 1) := by decide +kernel
theorem dX6_go_31 : decode cX6_go 31 = .ok (.ldc 133, 2) := by decide +kernel
theorem dX6_go_33 : decode cX6_go 33 = .ok (.invokevirtual 69, 3) := by decide +kernel
theorem dX6_go_36 : decode cX6_go 36 = .ok (.ireturn, 1) := by decide +kernel
theorem dX6_go_37 : decode cX6_go 37 = .ok (.aload_n 0, 1) := by decide +kernel
theorem dX6_go_38 : decode cX6_go 38 = .ok (.iload_n 1, 1) := by decide +kernel
theorem dX6_go_39 : decode cX6_go 39 = .ok (.invokevirtual 163, 3) := by decide +kernel
theorem dX6_go_42 : decode cX6_go 42 = .ok (.aload_n 0, 1) := by decide +kernel
theorem dX6_go_43 : decode cX6_go 43 = .ok (.invokevirtual 166, 3) := by decide +kernel
theorem dX6_go_46 : decode cX6_go 46 = .ok (.ireturn, 1) := by decide +kernel
theorem dX6_waiting_0 : decode cX6_waiting 0 = .ok (.iconst 0, 1) := by decide +kernel
theorem dX6_waiting_1 : decode cX6_waiting 1 = .ok (.istore_n 1, 1) := by decide +kernel
theorem dX6_waiting_2 : decode cX6_waiting 2 = .ok (.iconst 0, 1) := by decide +kernel
theorem dX6_waiting_3 : decode cX6_waiting 3 = .ok (.istore_n 2, 1) := by decide +kernel
theorem dX6_waiting_4 : decode cX6_waiting 4 = .ok (.iload_n 2, 1) := by decide +kernel
theorem dX6_waiting_5 : decode cX6_waiting 5 = .ok (.aload_n 0, 1) := by decide +kernel
theorem dX6_waiting_6 : decode cX6_waiting 6 = .ok (.getfield 9, 3) := by decide +kernel
theorem dX6_waiting_9 : decode cX6_waiting 9 = .ok (.iconst 1, 1) := by decide +kernel
theorem dX6_waiting_10 : decode cX6_waiting 10 = .ok (.iaload, 1) := by decide +kernel
theorem dX6_waiting_11 : decode cX6_waiting 11 = .ok (.if_icmp .ge 37, 3) := by decide +kernel
theorem dX6_waiting_14 : decode cX6_waiting 14 = .ok (.iload_n 1, 1) := by decide +kernel
theorem dX6_waiting_15 : decode cX6_waiting 15 = .ok (.aload_n 0, 1) := by decide +kernel
theorem dX6_waiting_16 : decode cX6_waiting 16 = .ok (.iload_n 2, 1) := by decide +kernel
theorem dX6_waiting_17 : decode cX6_waiting 17 = .ok (.invokevirtual 95, 3) := by decide +kernel
theorem dX6_waiting_20 : decode cX6_waiting 20 = .ok (.ifCond .ne 19, 3) := by decide +kernel
theorem dX6_waiting_23 : decode cX6_waiting 23 = .ok (.aload_n 0, 1) := by decide +kernel
theorem dX6_waiting_24 : decode cX6_waiting 24 = .ok (.iload_n 2, 1) := by decide +kernel
theorem dX6_waiting_25 : decode cX6_waiting 25 = .ok (.bipush 8, 2) := by decide +kernel
theorem dX6_waiting_27 : decode cX6_waiting 27 = .ok (.invokevirtual 92, 3) := by decide +kernel
theorem dX6_waiting_30 : decode cX6_waiting 30 = .ok (.ifCond .le 9, 3) := by decide +kernel
theorem dX6_waiting_33 : decode cX6_waiting 33 = .ok (.iconst 1, 1) := by decide +kernel
theorem dX6_waiting_34 : decode cX6_waiting 34 = .ok (.iload_n 2, 1) := by decide +kernel
theorem dX6_waiting_35 : decode cX6_waiting 35 = .ok (.ishl, 1) := by decide +kernel
theorem dX6_waiting_36 : decode cX6_waiting 36 = .ok (.goto 4, 3) := by decide +kernel
theorem dX6_waiting_39 : decode cX6_waiting 39 = .ok (.iconst 0, 1) := by decide +kernel
theorem dX6_waiting_40 : decode cX6_waiting 40 = .ok (.ior, 1) := by decide +kernel
theorem dX6_waiting_41 : decode cX6_waiting 41 = .ok (.istore_n 1, 1) := by decide +kernel
theorem dX6_waiting_42 : decode cX6_waiting 42 = .ok (.iinc 2 1, 3) := by decide +kernel
theorem dX6_waiting_45 : decode cX6_waiting 45 = .ok (.goto (-41), 3) := by decide +kernel
theorem dX6_waiting_48 : decode cX6_waiting 48 = .ok (.iload_n 1, 1) := by decide +kernel
theorem dX6_waiting_49 : decode cX6_waiting 49 = .ok (.ireturn, 1) := by decide +kernel
theorem dX6_deadOnes_0 : decode cX6_deadOnes 0 = .ok (.iconst 0, 1) := by decide +kernel
theorem dX6_deadOnes_1 : decode cX6_deadOnes 1 = .ok (.istore_n 1, 1) := by decide +kernel
theorem dX6_deadOnes_2 : decode cX6_deadOnes 2 = .ok (.iconst 0, 1) := by decide +kernel
theorem dX6_deadOnes_3 : decode cX6_deadOnes 3 = .ok (.istore_n 2, 1) := by decide +kernel
theorem dX6_deadOnes_4 : decode cX6_deadOnes 4 = .ok (.iload_n 2, 1) := by decide +kernel
theorem dX6_deadOnes_5 : decode cX6_deadOnes 5 = .ok (.aload_n 0, 1) := by decide +kernel
theorem dX6_deadOnes_6 : decode cX6_deadOnes 6 = .ok (.getfield 9, 3) := by decide +kernel
theorem dX6_deadOnes_9 : decode cX6_deadOnes 9 = .ok (.iconst 1, 1) := by decide +kernel
theorem dX6_deadOnes_10 : decode cX6_deadOnes 10 = .ok (.iaload, 1) := by decide +kernel
theorem dX6_deadOnes_11 : decode cX6_deadOnes 11 = .ok (.if_icmp .ge 21, 3) := by decide +kernel
theorem dX6_deadOnes_14 : decode cX6_deadOnes 14 = .ok (.iload_n 1, 1) := by decide +kernel
theorem dX6_deadOnes_15 : decode cX6_deadOnes 15 = .ok (.aload_n 0, 1) := by decide +kernel
theorem dX6_deadOnes_16 : decode cX6_deadOnes 16 = .ok (.iload_n 2, 1) := by decide +kernel
theorem dX6_deadOnes_17 : decode cX6_deadOnes 17 = .ok (.bipush 6, 2) := by decide +kernel
theorem dX6_deadOnes_19 : decode cX6_deadOnes 19 = .ok (.invokevirtual 92, 3) := by decide +kernel
theorem dX6_deadOnes_22 : decode cX6_deadOnes 22 = .ok (.iload_n 2, 1) := by decide +kernel
theorem dX6_deadOnes_23 : decode cX6_deadOnes 23 = .ok (.ishl, 1) := by decide +kernel
theorem dX6_deadOnes_24 : decode cX6_deadOnes 24 = .ok (.ior, 1) := by decide +kernel
theorem dX6_deadOnes_25 : decode cX6_deadOnes 25 = .ok (.istore_n 1, 1) := by decide +kernel
theorem dX6_deadOnes_26 : decode cX6_deadOnes 26 = .ok (.iinc 2 1, 3) := by decide +kernel
theorem dX6_deadOnes_29 : decode cX6_deadOnes 29 = .ok (.goto (-25), 3) := by decide +kernel
theorem dX6_deadOnes_32 : decode cX6_deadOnes 32 = .ok (.iload_n 1, 1) := by decide +kernel
theorem dX6_deadOnes_33 : decode cX6_deadOnes 33 = .ok (.ireturn, 1) := by decide +kernel
theorem dX6_sumOf_0 : decode cX6_sumOf 0 = .ok (.iconst 0, 1) := by decide +kernel
theorem dX6_sumOf_1 : decode cX6_sumOf 1 = .ok (.istore_n 2, 1) := by decide +kernel
theorem dX6_sumOf_2 : decode cX6_sumOf 2 = .ok (.iconst 0, 1) := by decide +kernel
theorem dX6_sumOf_3 : decode cX6_sumOf 3 = .ok (.istore_n 3, 1) := by decide +kernel
theorem dX6_sumOf_4 : decode cX6_sumOf 4 = .ok (.iload_n 3, 1) := by decide +kernel
theorem dX6_sumOf_5 : decode cX6_sumOf 5 = .ok (.aload_n 0, 1) := by decide +kernel
theorem dX6_sumOf_6 : decode cX6_sumOf 6 = .ok (.getfield 9, 3) := by decide +kernel
theorem dX6_sumOf_9 : decode cX6_sumOf 9 = .ok (.iconst 1, 1) := by decide +kernel
theorem dX6_sumOf_10 : decode cX6_sumOf 10 = .ok (.iaload, 1) := by decide +kernel
theorem dX6_sumOf_11 : decode cX6_sumOf 11 = .ok (.if_icmp .ge 18, 3) := by decide +kernel
theorem dX6_sumOf_14 : decode cX6_sumOf 14 = .ok (.iload_n 2, 1) := by decide +kernel
theorem dX6_sumOf_15 : decode cX6_sumOf 15 = .ok (.aload_n 0, 1) := by decide +kernel
theorem dX6_sumOf_16 : decode cX6_sumOf 16 = .ok (.iload_n 3, 1) := by decide +kernel
theorem dX6_sumOf_17 : decode cX6_sumOf 17 = .ok (.iload_n 1, 1) := by decide +kernel
theorem dX6_sumOf_18 : decode cX6_sumOf 18 = .ok (.invokevirtual 92, 3) := by decide +kernel
theorem dX6_sumOf_21 : decode cX6_sumOf 21 = .ok (.iadd, 1) := by decide +kernel
theorem dX6_sumOf_22 : decode cX6_sumOf 22 = .ok (.istore_n 2, 1) := by decide +kernel
theorem dX6_sumOf_23 : decode cX6_sumOf 23 = .ok (.iinc 3 1, 3) := by decide +kernel
theorem dX6_sumOf_26 : decode cX6_sumOf 26 = .ok (.goto (-22), 3) := by decide +kernel
theorem dX6_sumOf_29 : decode cX6_sumOf 29 = .ok (.iload_n 2, 1) := by decide +kernel
theorem dX6_sumOf_30 : decode cX6_sumOf 30 = .ok (.ireturn, 1) := by decide +kernel
theorem dX6_now_0 : decode cX6_now 0 = .ok (.iload_n 1, 1) := by decide +kernel
theorem dX6_now_1 : decode cX6_now 1 = .ok (.tableswitch 99 0 7 #[47, 54, 59, 64, 71, 78, 83, 89], 47) := by decide +kernel
theorem dX6_now_48 : decode cX6_now 48 = .ok (.aload_n 0, 1) := by decide +kernel
theorem dX6_now_49 : decode cX6_now 49 = .ok (.getfield 9, 3) := by decide +kernel
theorem dX6_now_52 : decode cX6_now 52 = .ok (.iconst 0, 1) := by decide +kernel
theorem dX6_now_53 : decode cX6_now 53 = .ok (.iaload, 1) := by decide +kernel
theorem dX6_now_54 : decode cX6_now 54 = .ok (.ireturn, 1) := by decide +kernel
theorem dX6_now_55 : decode cX6_now 55 = .ok (.aload_n 0, 1) := by decide +kernel
theorem dX6_now_56 : decode cX6_now 56 = .ok (.invokevirtual 166, 3) := by decide +kernel
theorem dX6_now_59 : decode cX6_now 59 = .ok (.ireturn, 1) := by decide +kernel
theorem dX6_now_60 : decode cX6_now 60 = .ok (.aload_n 0, 1) := by decide +kernel
theorem dX6_now_61 : decode cX6_now 61 = .ok (.invokevirtual 169, 3) := by decide +kernel
theorem dX6_now_64 : decode cX6_now 64 = .ok (.ireturn, 1) := by decide +kernel
theorem dX6_now_65 : decode cX6_now 65 = .ok (.aload_n 0, 1) := by decide +kernel
theorem dX6_now_66 : decode cX6_now 66 = .ok (.getfield 9, 3) := by decide +kernel
theorem dX6_now_69 : decode cX6_now 69 = .ok (.iconst 3, 1) := by decide +kernel
theorem dX6_now_70 : decode cX6_now 70 = .ok (.iaload, 1) := by decide +kernel
theorem dX6_now_71 : decode cX6_now 71 = .ok (.ireturn, 1) := by decide +kernel
theorem dX6_now_72 : decode cX6_now 72 = .ok (.aload_n 0, 1) := by decide +kernel
theorem dX6_now_73 : decode cX6_now 73 = .ok (.bipush 9, 2) := by decide +kernel
theorem dX6_now_75 : decode cX6_now 75 = .ok (.invokevirtual 172, 3) := by decide +kernel
theorem dX6_now_78 : decode cX6_now 78 = .ok (.ireturn, 1) := by decide +kernel
theorem dX6_now_79 : decode cX6_now 79 = .ok (.aload_n 0, 1) := by decide +kernel
theorem dX6_now_80 : decode cX6_now 80 = .ok (.invokevirtual 175, 3) := by decide +kernel
theorem dX6_now_83 : decode cX6_now 83 = .ok (.ireturn, 1) := by decide +kernel
theorem dX6_now_84 : decode cX6_now 84 = .ok (.aload_n 0, 1) := by decide +kernel
theorem dX6_now_85 : decode cX6_now 85 = .ok (.iconst 3, 1) := by decide +kernel
theorem dX6_now_86 : decode cX6_now 86 = .ok (.invokevirtual 172, 3) := by decide +kernel
theorem dX6_now_89 : decode cX6_now 89 = .ok (.ireturn, 1) := by decide +kernel
theorem dX6_now_90 : decode cX6_now 90 = .ok (.aload_n 0, 1) := by decide +kernel
theorem dX6_now_91 : decode cX6_now 91 = .ok (.getfield 9, 3) := by decide +kernel
theorem dX6_now_94 : decode cX6_now 94 = .ok (.iconst 0, 1) := by decide +kernel
theorem dX6_now_95 : decode cX6_now 95 = .ok (.iaload, 1) := by decide +kernel
theorem dX6_now_96 : decode cX6_now 96 = .ok (.bipush 60, 2) := by decide +kernel
theorem dX6_now_98 : decode cX6_now 98 = .ok (.irem, 1) := by decide +kernel
theorem dX6_now_99 : decode cX6_now 99 = .ok (.ireturn, 1) := by decide +kernel
theorem dX6_now_100 : decode cX6_now 100 = .ok (.aload_n 0, 1) := by decide +kernel
theorem dX6_now_101 : decode cX6_now 101 = .ok (.ldc 63, 2) := by decide +kernel
theorem dX6_now_103 : decode cX6_now 103 = .ok (.invokevirtual 69, 3) := by decide +kernel
theorem dX6_now_106 : decode cX6_now 106 = .ok (.ireturn, 1) := by decide +kernel
theorem dX6_behind_0 : decode cX6_behind 0 = .ok (.aload_n 0, 1) := by decide +kernel
theorem dX6_behind_1 : decode cX6_behind 1 = .ok (.getfield 9, 3) := by decide +kernel
theorem dX6_behind_4 : decode cX6_behind 4 = .ok (.aload_n 0, 1) := by decide +kernel
theorem dX6_behind_5 : decode cX6_behind 5 = .ok (.getfield 16, 3) := by decide +kernel
theorem dX6_behind_8 : decode cX6_behind 8 = .ok (.invokestatic 64, 3) := by decide +kernel
theorem dX6_behind_11 : decode cX6_behind 11 = .ok (.aload_n 0, 1) := by decide +kernel
theorem dX6_behind_12 : decode cX6_behind 12 = .ok (.iload_n 2, 1) := by decide +kernel
theorem dX6_behind_13 : decode cX6_behind 13 = .ok (.invokevirtual 163, 3) := by decide +kernel
theorem dX6_behind_16 : decode cX6_behind 16 = .ok (.aload_n 0, 1) := by decide +kernel
theorem dX6_behind_17 : decode cX6_behind 17 = .ok (.aload_n 0, 1) := by decide +kernel
theorem dX6_behind_18 : decode cX6_behind 18 = .ok (.getfield 9, 3) := by decide +kernel
theorem dX6_behind_21 : decode cX6_behind 21 = .ok (.iload_n 1, 1) := by decide +kernel
theorem dX6_behind_22 : decode cX6_behind 22 = .ok (.iaload, 1) := by decide +kernel
theorem dX6_behind_23 : decode cX6_behind 23 = .ok (.invokevirtual 178, 3) := by decide +kernel
theorem dX6_behind_26 : decode cX6_behind 26 = .ok (.ireturn, 1) := by decide +kernel
theorem dX6_soldBehind_0 : decode cX6_soldBehind 0 = .ok (.aload_n 0, 1) := by decide +kernel
theorem dX6_soldBehind_1 : decode cX6_soldBehind 1 = .ok (.getfield 9, 3) := by decide +kernel
theorem dX6_soldBehind_4 : decode cX6_soldBehind 4 = .ok (.aload_n 0, 1) := by decide +kernel
theorem dX6_soldBehind_5 : decode cX6_soldBehind 5 = .ok (.getfield 16, 3) := by decide +kernel
theorem dX6_soldBehind_8 : decode cX6_soldBehind 8 = .ok (.invokestatic 64, 3) := by decide +kernel
theorem dX6_soldBehind_11 : decode cX6_soldBehind 11 = .ok (.aload_n 0, 1) := by decide +kernel
theorem dX6_soldBehind_12 : decode cX6_soldBehind 12 = .ok (.iload_n 1, 1) := by decide +kernel
theorem dX6_soldBehind_13 : decode cX6_soldBehind 13 = .ok (.invokevirtual 163, 3) := by decide +kernel
theorem dX6_soldBehind_16 : decode cX6_soldBehind 16 = .ok (.aload_n 0, 1) := by decide +kernel
theorem dX6_soldBehind_17 : decode cX6_soldBehind 17 = .ok (.aload_n 0, 1) := by decide +kernel
theorem dX6_soldBehind_18 : decode cX6_soldBehind 18 = .ok (.bipush 9, 2) := by decide +kernel
theorem dX6_soldBehind_20 : decode cX6_soldBehind 20 = .ok (.invokevirtual 172, 3) := by decide +kernel
theorem dX6_soldBehind_23 : decode cX6_soldBehind 23 = .ok (.invokevirtual 178, 3) := by decide +kernel
theorem dX6_soldBehind_26 : decode cX6_soldBehind 26 = .ok (.ireturn, 1) := by decide +kernel
theorem dX6_ahead_0 : decode cX6_ahead 0 = .ok (.iload_n 2, 1) := by decide +kernel
theorem dX6_ahead_1 : decode cX6_ahead 1 = .ok (.iconst 3, 1) := by decide +kernel
theorem dX6_ahead_2 : decode cX6_ahead 2 = .ok (.iconst 4, 1) := by decide +kernel
theorem dX6_ahead_3 : decode cX6_ahead 3 = .ok (.invokestatic 73, 3) := by decide +kernel
theorem dX6_ahead_6 : decode cX6_ahead 6 = .ok (.ifCond .ne 14, 3) := by decide +kernel
theorem dX6_ahead_9 : decode cX6_ahead 9 = .ok (.iload_n 2, 1) := by decide +kernel
theorem dX6_ahead_10 : decode cX6_ahead 10 = .ok (.bipush 7, 2) := by decide +kernel
theorem dX6_ahead_12 : decode cX6_ahead 12 = .ok (.bipush 10, 2) := by decide +kernel
theorem dX6_ahead_14 : decode cX6_ahead 14 = .ok (.invokestatic 73, 3) := by decide +kernel
theorem dX6_ahead_17 : decode cX6_ahead 17 = .ok (.ifCond .eq 7, 3) := by decide +kernel
theorem dX6_ahead_20 : decode cX6_ahead 20 = .ok (.iconst 1, 1) := by decide +kernel
theorem dX6_ahead_21 : decode cX6_ahead 21 = .ok (.goto 4, 3) := by decide +kernel
theorem dX6_ahead_24 : decode cX6_ahead 24 = .ok (.iconst 0, 1) := by decide +kernel
theorem dX6_ahead_25 : decode cX6_ahead 25 = .ok (.istore 4, 2) := by decide +kernel
theorem dX6_ahead_27 : decode cX6_ahead 27 = .ok (.aload_n 0, 1) := by decide +kernel
theorem dX6_ahead_28 : decode cX6_ahead 28 = .ok (.iload_n 1, 1) := by decide +kernel
theorem dX6_ahead_29 : decode cX6_ahead 29 = .ok (.invokevirtual 116, 3) := by decide +kernel
theorem dX6_ahead_32 : decode cX6_ahead 32 = .ok (.ifCond .eq 19, 3) := by decide +kernel
theorem dX6_ahead_35 : decode cX6_ahead 35 = .ok (.iload 4, 2) := by decide +kernel
theorem dX6_ahead_37 : decode cX6_ahead 37 = .ok (.ifCond .eq 14, 3) := by decide +kernel
theorem dX6_ahead_40 : decode cX6_ahead 40 = .ok (.iload_n 3, 1) := by decide +kernel
theorem dX6_ahead_41 : decode cX6_ahead 41 = .ok (.iconst 0, 1) := by decide +kernel
theorem dX6_ahead_42 : decode cX6_ahead 42 = .ok (.sipush 200, 3) := by decide +kernel
theorem dX6_ahead_45 : decode cX6_ahead 45 = .ok (.invokestatic 73, 3) := by decide +kernel
theorem dX6_ahead_48 : decode cX6_ahead 48 = .ok (.ifCond .ne 10, 3) := by decide +kernel
theorem dX6_ahead_51 : decode cX6_ahead 51 = .ok (.aload_n 0, 1) := by decide +kernel
theorem dX6_ahead_52 : decode cX6_ahead 52 = .ok (.ldc 63, 2) := by decide +kernel
theorem dX6_ahead_54 : decode cX6_ahead 54 = .ok (.invokevirtual 69, 3) := by decide +kernel
theorem dX6_ahead_57 : decode cX6_ahead 57 = .ok (.ireturn, 1) := by decide +kernel
theorem dX6_ahead_58 : decode cX6_ahead 58 = .ok (.aload_n 0, 1) := by decide +kernel
theorem dX6_ahead_59 : decode cX6_ahead 59 = .ok (.getfield 9, 3) := by decide +kernel
theorem dX6_ahead_62 : decode cX6_ahead 62 = .ok (.aload_n 0, 1) := by decide +kernel
theorem dX6_ahead_63 : decode cX6_ahead 63 = .ok (.getfield 16, 3) := by decide +kernel
theorem dX6_ahead_66 : decode cX6_ahead 66 = .ok (.invokestatic 64, 3) := by decide +kernel
theorem dX6_ahead_69 : decode cX6_ahead 69 = .ok (.aload_n 0, 1) := by decide +kernel
theorem dX6_ahead_70 : decode cX6_ahead 70 = .ok (.iload_n 3, 1) := by decide +kernel
theorem dX6_ahead_71 : decode cX6_ahead 71 = .ok (.invokevirtual 163, 3) := by decide +kernel
theorem dX6_ahead_74 : decode cX6_ahead 74 = .ok (.aload_n 0, 1) := by decide +kernel
theorem dX6_ahead_75 : decode cX6_ahead 75 = .ok (.aload_n 0, 1) := by decide +kernel
theorem dX6_ahead_76 : decode cX6_ahead 76 = .ok (.iload_n 1, 1) := by decide +kernel
theorem dX6_ahead_77 : decode cX6_ahead 77 = .ok (.iload_n 2, 1) := by decide +kernel
theorem dX6_ahead_78 : decode cX6_ahead 78 = .ok (.invokevirtual 119, 3) := by decide +kernel
theorem dX6_ahead_81 : decode cX6_ahead 81 = .ok (.invokevirtual 178, 3) := by decide +kernel
theorem dX6_ahead_84 : decode cX6_ahead 84 = .ok (.ireturn, 1) := by decide +kernel
theorem dX6_daysTo_0 : decode cX6_daysTo 0 = .ok (.aload_n 0, 1) := by decide +kernel
theorem dX6_daysTo_1 : decode cX6_daysTo 1 = .ok (.getfield 9, 3) := by decide +kernel
theorem dX6_daysTo_4 : decode cX6_daysTo 4 = .ok (.aload_n 0, 1) := by decide +kernel
theorem dX6_daysTo_5 : decode cX6_daysTo 5 = .ok (.getfield 16, 3) := by decide +kernel
theorem dX6_daysTo_8 : decode cX6_daysTo 8 = .ok (.invokestatic 64, 3) := by decide +kernel
theorem dX6_daysTo_11 : decode cX6_daysTo 11 = .ok (.iconst 0, 1) := by decide +kernel
theorem dX6_daysTo_12 : decode cX6_daysTo 12 = .ok (.istore_n 3, 1) := by decide +kernel
theorem dX6_daysTo_13 : decode cX6_daysTo 13 = .ok (.iload_n 3, 1) := by decide +kernel
theorem dX6_daysTo_14 : decode cX6_daysTo 14 = .ok (.sipush 400, 3) := by decide +kernel
theorem dX6_daysTo_17 : decode cX6_daysTo 17 = .ok (.if_icmp .ge 29, 3) := by decide +kernel
theorem dX6_daysTo_20 : decode cX6_daysTo 20 = .ok (.aload_n 0, 1) := by decide +kernel
theorem dX6_daysTo_21 : decode cX6_daysTo 21 = .ok (.iload_n 1, 1) := by decide +kernel
theorem dX6_daysTo_22 : decode cX6_daysTo 22 = .ok (.invokevirtual 98, 3) := by decide +kernel
theorem dX6_daysTo_25 : decode cX6_daysTo 25 = .ok (.ifCond .eq 11, 3) := by decide +kernel
theorem dX6_daysTo_28 : decode cX6_daysTo 28 = .ok (.aload_n 0, 1) := by decide +kernel
theorem dX6_daysTo_29 : decode cX6_daysTo 29 = .ok (.iload_n 2, 1) := by decide +kernel
theorem dX6_daysTo_30 : decode cX6_daysTo 30 = .ok (.invokevirtual 98, 3) := by decide +kernel
theorem dX6_daysTo_33 : decode cX6_daysTo 33 = .ok (.ifCond .ne 13, 3) := by decide +kernel
theorem dX6_daysTo_36 : decode cX6_daysTo 36 = .ok (.aload_n 0, 1) := by decide +kernel
theorem dX6_daysTo_37 : decode cX6_daysTo 37 = .ok (.invokevirtual 160, 3) := by decide +kernel
theorem dX6_daysTo_40 : decode cX6_daysTo 40 = .ok (.iinc 3 1, 3) := by decide +kernel
theorem dX6_daysTo_43 : decode cX6_daysTo 43 = .ok (.goto (-30), 3) := by decide +kernel
theorem dX6_daysTo_46 : decode cX6_daysTo 46 = .ok (.aload_n 0, 1) := by decide +kernel
theorem dX6_daysTo_47 : decode cX6_daysTo 47 = .ok (.aload_n 0, 1) := by decide +kernel
theorem dX6_daysTo_48 : decode cX6_daysTo 48 = .ok (.iload_n 1, 1) := by decide +kernel
theorem dX6_daysTo_49 : decode cX6_daysTo 49 = .ok (.invokevirtual 98, 3) := by decide +kernel
theorem dX6_daysTo_52 : decode cX6_daysTo 52 = .ok (.ifCond .eq 15, 3) := by decide +kernel
theorem dX6_daysTo_55 : decode cX6_daysTo 55 = .ok (.aload_n 0, 1) := by decide +kernel
theorem dX6_daysTo_56 : decode cX6_daysTo 56 = .ok (.iload_n 2, 1) := by decide +kernel
theorem dX6_daysTo_57 : decode cX6_daysTo 57 = .ok (.invokevirtual 98, 3) := by decide +kernel
theorem dX6_daysTo_60 : decode cX6_daysTo 60 = .ok (.ifCond .eq 7, 3) := by decide +kernel
theorem dX6_daysTo_63 : decode cX6_daysTo 63 = .ok (.iload_n 3, 1) := by decide +kernel
theorem dX6_daysTo_64 : decode cX6_daysTo 64 = .ok (.goto 4, 3) := by decide +kernel
theorem dX6_daysTo_67 : decode cX6_daysTo 67 = .ok (.iconst (-1), 1) := by decide +kernel
theorem dX6_daysTo_68 : decode cX6_daysTo 68 = .ok (.invokevirtual 178, 3) := by decide +kernel
theorem dX6_daysTo_71 : decode cX6_daysTo 71 = .ok (.ireturn, 1) := by decide +kernel
theorem dX6_sings_0 : decode cX6_sings 0 = .ok (.aload_n 0, 1) := by decide +kernel
theorem dX6_sings_1 : decode cX6_sings 1 = .ok (.iload_n 1, 1) := by decide +kernel
theorem dX6_sings_2 : decode cX6_sings 2 = .ok (.invokevirtual 116, 3) := by decide +kernel
theorem dX6_sings_5 : decode cX6_sings 5 = .ok (.ifCond .eq 16, 3) := by decide +kernel
theorem dX6_sings_8 : decode cX6_sings 8 = .ok (.aload_n 0, 1) := by decide +kernel
theorem dX6_sings_9 : decode cX6_sings 9 = .ok (.aload_n 0, 1) := by decide +kernel
theorem dX6_sings_10 : decode cX6_sings 10 = .ok (.iload_n 1, 1) := by decide +kernel
theorem dX6_sings_11 : decode cX6_sings 11 = .ok (.iload_n 1, 1) := by decide +kernel
theorem dX6_sings_12 : decode cX6_sings 12 = .ok (.invokevirtual 181, 3) := by decide +kernel
theorem dX6_sings_15 : decode cX6_sings 15 = .ok (.invokevirtual 184, 3) := by decide +kernel
theorem dX6_sings_18 : decode cX6_sings 18 = .ok (.goto 9, 3) := by decide +kernel
theorem dX6_sings_21 : decode cX6_sings 21 = .ok (.aload_n 0, 1) := by decide +kernel
theorem dX6_sings_22 : decode cX6_sings 22 = .ok (.ldc 63, 2) := by decide +kernel
theorem dX6_sings_24 : decode cX6_sings 24 = .ok (.invokevirtual 69, 3) := by decide +kernel
theorem dX6_sings_27 : decode cX6_sings 27 = .ok (.ireturn, 1) := by decide +kernel
theorem dX6_together_0 : decode cX6_together 0 = .ok (.aload_n 0, 1) := by decide +kernel
theorem dX6_together_1 : decode cX6_together 1 = .ok (.iload_n 1, 1) := by decide +kernel
theorem dX6_together_2 : decode cX6_together 2 = .ok (.invokevirtual 116, 3) := by decide +kernel
theorem dX6_together_5 : decode cX6_together 5 = .ok (.ifCond .eq 29, 3) := by decide +kernel
theorem dX6_together_8 : decode cX6_together 8 = .ok (.aload_n 0, 1) := by decide +kernel
theorem dX6_together_9 : decode cX6_together 9 = .ok (.iload_n 2, 1) := by decide +kernel
theorem dX6_together_10 : decode cX6_together 10 = .ok (.invokevirtual 116, 3) := by decide +kernel
theorem dX6_together_13 : decode cX6_together 13 = .ok (.ifCond .eq 21, 3) := by decide +kernel
theorem dX6_together_16 : decode cX6_together 16 = .ok (.iload_n 1, 1) := by decide +kernel
theorem dX6_together_17 : decode cX6_together 17 = .ok (.iload_n 2, 1) := by decide +kernel
theorem dX6_together_18 : decode cX6_together 18 = .ok (.if_icmp .eq 16, 3) := by decide +kernel
theorem dX6_together_21 : decode cX6_together 21 = .ok (.aload_n 0, 1) := by decide +kernel
theorem dX6_together_22 : decode cX6_together 22 = .ok (.aload_n 0, 1) := by decide +kernel
theorem dX6_together_23 : decode cX6_together 23 = .ok (.iload_n 1, 1) := by decide +kernel
theorem dX6_together_24 : decode cX6_together 24 = .ok (.iload_n 2, 1) := by decide +kernel
theorem dX6_together_25 : decode cX6_together 25 = .ok (.invokevirtual 181, 3) := by decide +kernel
theorem dX6_together_28 : decode cX6_together 28 = .ok (.invokevirtual 184, 3) := by decide +kernel
theorem dX6_together_31 : decode cX6_together 31 = .ok (.goto 9, 3) := by decide +kernel
theorem dX6_together_34 : decode cX6_together 34 = .ok (.aload_n 0, 1) := by decide +kernel
theorem dX6_together_35 : decode cX6_together 35 = .ok (.ldc 63, 2) := by decide +kernel
theorem dX6_together_37 : decode cX6_together 37 = .ok (.invokevirtual 69, 3) := by decide +kernel
theorem dX6_together_40 : decode cX6_together 40 = .ok (.ireturn, 1) := by decide +kernel
theorem dX6_daysUp_0 : decode cX6_daysUp 0 = .ok (.aload_n 0, 1) := by decide +kernel
theorem dX6_daysUp_1 : decode cX6_daysUp 1 = .ok (.getfield 9, 3) := by decide +kernel
theorem dX6_daysUp_4 : decode cX6_daysUp 4 = .ok (.aload_n 0, 1) := by decide +kernel
theorem dX6_daysUp_5 : decode cX6_daysUp 5 = .ok (.getfield 16, 3) := by decide +kernel
theorem dX6_daysUp_8 : decode cX6_daysUp 8 = .ok (.invokestatic 64, 3) := by decide +kernel
theorem dX6_daysUp_11 : decode cX6_daysUp 11 = .ok (.iconst 0, 1) := by decide +kernel
theorem dX6_daysUp_12 : decode cX6_daysUp 12 = .ok (.istore_n 3, 1) := by decide +kernel
theorem dX6_daysUp_13 : decode cX6_daysUp 13 = .ok (.iload_n 3, 1) := by decide +kernel
theorem dX6_daysUp_14 : decode cX6_daysUp 14 = .ok (.sipush 400, 3) := by decide +kernel
theorem dX6_daysUp_17 : decode cX6_daysUp 17 = .ok (.if_icmp .ge 23, 3) := by decide +kernel
theorem dX6_daysUp_20 : decode cX6_daysUp 20 = .ok (.aload_n 0, 1) := by decide +kernel
theorem dX6_daysUp_21 : decode cX6_daysUp 21 = .ok (.getfield 9, 3) := by decide +kernel
theorem dX6_daysUp_24 : decode cX6_daysUp 24 = .ok (.iload_n 1, 1) := by decide +kernel
theorem dX6_daysUp_25 : decode cX6_daysUp 25 = .ok (.iaload, 1) := by decide +kernel
theorem dX6_daysUp_26 : decode cX6_daysUp 26 = .ok (.iload_n 2, 1) := by decide +kernel
theorem dX6_daysUp_27 : decode cX6_daysUp 27 = .ok (.if_icmp .ge 13, 3) := by decide +kernel
theorem dX6_daysUp_30 : decode cX6_daysUp 30 = .ok (.aload_n 0, 1) := by decide +kernel
theorem dX6_daysUp_31 : decode cX6_daysUp 31 = .ok (.invokevirtual 160, 3) := by decide +kernel
theorem dX6_daysUp_34 : decode cX6_daysUp 34 = .ok (.iinc 3 1, 3) := by decide +kernel
theorem dX6_daysUp_37 : decode cX6_daysUp 37 = .ok (.goto (-24), 3) := by decide +kernel
theorem dX6_daysUp_40 : decode cX6_daysUp 40 = .ok (.aload_n 0, 1) := by decide +kernel
theorem dX6_daysUp_41 : decode cX6_daysUp 41 = .ok (.aload_n 0, 1) := by decide +kernel
theorem dX6_daysUp_42 : decode cX6_daysUp 42 = .ok (.getfield 9, 3) := by decide +kernel
theorem dX6_daysUp_45 : decode cX6_daysUp 45 = .ok (.iload_n 1, 1) := by decide +kernel
theorem dX6_daysUp_46 : decode cX6_daysUp 46 = .ok (.iaload, 1) := by decide +kernel
theorem dX6_daysUp_47 : decode cX6_daysUp 47 = .ok (.iload_n 2, 1) := by decide +kernel
theorem dX6_daysUp_48 : decode cX6_daysUp 48 = .ok (.if_icmp .ge 7, 3) := by decide +kernel
theorem dX6_daysUp_51 : decode cX6_daysUp 51 = .ok (.iconst (-1), 1) := by decide +kernel
theorem dX6_daysUp_52 : decode cX6_daysUp 52 = .ok (.goto 4, 3) := by decide +kernel
theorem dX6_daysUp_55 : decode cX6_daysUp 55 = .ok (.iload_n 3, 1) := by decide +kernel
theorem dX6_daysUp_56 : decode cX6_daysUp 56 = .ok (.invokevirtual 178, 3) := by decide +kernel
theorem dX6_daysUp_59 : decode cX6_daysUp 59 = .ok (.ireturn, 1) := by decide +kernel
theorem dX6_rest_0 : decode cX6_rest 0 = .ok (.iload_n 1, 1) := by decide +kernel
theorem dX6_rest_1 : decode cX6_rest 1 = .ok (.iconst 0, 1) := by decide +kernel
theorem dX6_rest_2 : decode cX6_rest 2 = .ok (.ldc 141, 2) := by decide +kernel
theorem dX6_rest_4 : decode cX6_rest 4 = .ok (.invokestatic 73, 3) := by decide +kernel
theorem dX6_rest_7 : decode cX6_rest 7 = .ok (.ifCond .eq 16, 3) := by decide +kernel
theorem dX6_rest_10 : decode cX6_rest 10 = .ok (.aload_n 0, 1) := by decide +kernel
theorem dX6_rest_11 : decode cX6_rest 11 = .ok (.aload_n 0, 1) := by decide +kernel
theorem dX6_rest_12 : decode cX6_rest 12 = .ok (.iconst 3, 1) := by decide +kernel
theorem dX6_rest_13 : decode cX6_rest 13 = .ok (.iload_n 1, 1) := by decide +kernel
theorem dX6_rest_14 : decode cX6_rest 14 = .ok (.invokevirtual 187, 3) := by decide +kernel
theorem dX6_rest_17 : decode cX6_rest 17 = .ok (.invokevirtual 184, 3) := by decide +kernel
theorem dX6_rest_20 : decode cX6_rest 20 = .ok (.goto 9, 3) := by decide +kernel
theorem dX6_rest_23 : decode cX6_rest 23 = .ok (.aload_n 0, 1) := by decide +kernel
theorem dX6_rest_24 : decode cX6_rest 24 = .ok (.ldc 63, 2) := by decide +kernel
theorem dX6_rest_26 : decode cX6_rest 26 = .ok (.invokevirtual 69, 3) := by decide +kernel
theorem dX6_rest_29 : decode cX6_rest 29 = .ok (.ireturn, 1) := by decide +kernel
theorem dX6_when_0 : decode cX6_when 0 = .ok (.aload_n 0, 1) := by decide +kernel
theorem dX6_when_1 : decode cX6_when 1 = .ok (.iload_n 1, 1) := by decide +kernel
theorem dX6_when_2 : decode cX6_when 2 = .ok (.invokevirtual 116, 3) := by decide +kernel
theorem dX6_when_5 : decode cX6_when 5 = .ok (.ifCond .eq 32, 3) := by decide +kernel
theorem dX6_when_8 : decode cX6_when 8 = .ok (.iload_n 2, 1) := by decide +kernel
theorem dX6_when_9 : decode cX6_when 9 = .ok (.iconst 0, 1) := by decide +kernel
theorem dX6_when_10 : decode cX6_when 10 = .ok (.sipush 9999, 3) := by decide +kernel
theorem dX6_when_13 : decode cX6_when 13 = .ok (.invokestatic 73, 3) := by decide +kernel
theorem dX6_when_16 : decode cX6_when 16 = .ok (.ifCond .eq 21, 3) := by decide +kernel
theorem dX6_when_19 : decode cX6_when 19 = .ok (.aload_n 0, 1) := by decide +kernel
theorem dX6_when_20 : decode cX6_when 20 = .ok (.aload_n 0, 1) := by decide +kernel
theorem dX6_when_21 : decode cX6_when 21 = .ok (.iload_n 1, 1) := by decide +kernel
theorem dX6_when_22 : decode cX6_when 22 = .ok (.bipush 9, 2) := by decide +kernel
theorem dX6_when_24 : decode cX6_when 24 = .ok (.invokestatic 77, 3) := by decide +kernel
theorem dX6_when_27 : decode cX6_when 27 = .ok (.iload_n 2, 1) := by decide +kernel
theorem dX6_when_28 : decode cX6_when 28 = .ok (.invokevirtual 187, 3) := by decide +kernel
theorem dX6_when_31 : decode cX6_when 31 = .ok (.invokevirtual 184, 3) := by decide +kernel
theorem dX6_when_34 : decode cX6_when 34 = .ok (.goto 9, 3) := by decide +kernel
theorem dX6_when_37 : decode cX6_when 37 = .ok (.aload_n 0, 1) := by decide +kernel
theorem dX6_when_38 : decode cX6_when 38 = .ok (.ldc 63, 2) := by decide +kernel
theorem dX6_when_40 : decode cX6_when 40 = .ok (.invokevirtual 69, 3) := by decide +kernel
theorem dX6_when_43 : decode cX6_when 43 = .ok (.ireturn, 1) := by decide +kernel
theorem dX6_isThought_0 : decode cX6_isThought 0 = .ok (.iload_n 0, 1) := by decide +kernel
theorem dX6_isThought_1 : decode cX6_isThought 1 = .ok (.iconst 0, 1) := by decide +kernel
theorem dX6_isThought_2 : decode cX6_isThought 2 = .ok (.bipush 120, 2) := by decide +kernel
theorem dX6_isThought_4 : decode cX6_isThought 4 = .ok (.invokestatic 73, 3) := by decide +kernel
theorem dX6_isThought_7 : decode cX6_isThought 7 = .ok (.ireturn, 1) := by decide +kernel
theorem dX6_bestBy_0 : decode cX6_bestBy 0 = .ok (.aload_n 0, 1) := by decide +kernel
theorem dX6_bestBy_1 : decode cX6_bestBy 1 = .ok (.getfield 9, 3) := by decide +kernel
theorem dX6_bestBy_4 : decode cX6_bestBy 4 = .ok (.iload_n 1, 1) := by decide +kernel
theorem dX6_bestBy_5 : decode cX6_bestBy 5 = .ok (.iaload, 1) := by decide +kernel
theorem dX6_bestBy_6 : decode cX6_bestBy 6 = .ok (.istore 6, 2) := by decide +kernel
theorem dX6_bestBy_8 : decode cX6_bestBy 8 = .ok (.iload_n 2, 1) := by decide +kernel
theorem dX6_bestBy_9 : decode cX6_bestBy 9 = .ok (.istore 7, 2) := by decide +kernel
theorem dX6_bestBy_11 : decode cX6_bestBy 11 = .ok (.iconst (-1), 1) := by decide +kernel
theorem dX6_bestBy_12 : decode cX6_bestBy 12 = .ok (.istore 8, 2) := by decide +kernel
theorem dX6_bestBy_14 : decode cX6_bestBy 14 = .ok (.iload_n 2, 1) := by decide +kernel
theorem dX6_bestBy_15 : decode cX6_bestBy 15 = .ok (.istore 9, 2) := by decide +kernel
theorem dX6_bestBy_17 : decode cX6_bestBy 17 = .ok (.iload 9, 2) := by decide +kernel
theorem dX6_bestBy_19 : decode cX6_bestBy 19 = .ok (.iload_n 3, 1) := by decide +kernel
theorem dX6_bestBy_20 : decode cX6_bestBy 20 = .ok (.if_icmp .gt 56, 3) := by decide +kernel
theorem dX6_bestBy_23 : decode cX6_bestBy 23 = .ok (.aload_n 0, 1) := by decide +kernel
theorem dX6_bestBy_24 : decode cX6_bestBy 24 = .ok (.getfield 9, 3) := by decide +kernel
theorem dX6_bestBy_27 : decode cX6_bestBy 27 = .ok (.iload_n 1, 1) := by decide +kernel
theorem dX6_bestBy_28 : decode cX6_bestBy 28 = .ok (.iload 9, 2) := by decide +kernel
theorem dX6_bestBy_30 : decode cX6_bestBy 30 = .ok (.iastore, 1) := by decide +kernel
theorem dX6_bestBy_31 : decode cX6_bestBy 31 = .ok (.iload 4, 2) := by decide +kernel
theorem dX6_bestBy_33 : decode cX6_bestBy 33 = .ok (.ifCond .ge 12, 3) := by decide +kernel
theorem dX6_bestBy_36 : decode cX6_bestBy 36 = .ok (.aload_n 0, 1) := by decide +kernel
theorem dX6_bestBy_37 : decode cX6_bestBy 37 = .ok (.iload 5, 2) := by decide +kernel
theorem dX6_bestBy_39 : decode cX6_bestBy 39 = .ok (.invokevirtual 190, 3) := by decide +kernel
theorem dX6_bestBy_42 : decode cX6_bestBy 42 = .ok (.goto 11, 3) := by decide +kernel
theorem dX6_bestBy_45 : decode cX6_bestBy 45 = .ok (.aload_n 0, 1) := by decide +kernel
theorem dX6_bestBy_46 : decode cX6_bestBy 46 = .ok (.iload 4, 2) := by decide +kernel
theorem dX6_bestBy_48 : decode cX6_bestBy 48 = .ok (.iload 5, 2) := by decide +kernel
theorem dX6_bestBy_50 : decode cX6_bestBy 50 = .ok (.invokevirtual 193, 3) := by decide +kernel
theorem dX6_bestBy_53 : decode cX6_bestBy 53 = .ok (.istore 10, 2) := by decide +kernel
theorem dX6_bestBy_55 : decode cX6_bestBy 55 = .ok (.iload 10, 2) := by decide +kernel
theorem dX6_bestBy_57 : decode cX6_bestBy 57 = .ok (.iload 8, 2) := by decide +kernel
theorem dX6_bestBy_59 : decode cX6_bestBy 59 = .ok (.if_icmp .le 11, 3) := by decide +kernel
theorem dX6_bestBy_62 : decode cX6_bestBy 62 = .ok (.iload 9, 2) := by decide +kernel
theorem dX6_bestBy_64 : decode cX6_bestBy 64 = .ok (.istore 7, 2) := by decide +kernel
theorem dX6_bestBy_66 : decode cX6_bestBy 66 = .ok (.iload 10, 2) := by decide +kernel
theorem dX6_bestBy_68 : decode cX6_bestBy 68 = .ok (.istore 8, 2) := by decide +kernel
theorem dX6_bestBy_70 : decode cX6_bestBy 70 = .ok (.iinc 9 1, 3) := by decide +kernel
theorem dX6_bestBy_73 : decode cX6_bestBy 73 = .ok (.goto (-56), 3) := by decide +kernel
theorem dX6_bestBy_76 : decode cX6_bestBy 76 = .ok (.aload_n 0, 1) := by decide +kernel
theorem dX6_bestBy_77 : decode cX6_bestBy 77 = .ok (.getfield 9, 3) := by decide +kernel
theorem dX6_bestBy_80 : decode cX6_bestBy 80 = .ok (.iload_n 1, 1) := by decide +kernel
theorem dX6_bestBy_81 : decode cX6_bestBy 81 = .ok (.iload 6, 2) := by decide +kernel
theorem dX6_bestBy_83 : decode cX6_bestBy 83 = .ok (.iastore, 1) := by decide +kernel
theorem dX6_bestBy_84 : decode cX6_bestBy 84 = .ok (.iload 7, 2) := by decide +kernel
theorem dX6_bestBy_86 : decode cX6_bestBy 86 = .ok (.ireturn, 1) := by decide +kernel
theorem dX6_beginFor_0 : decode cX6_beginFor 0 = .ok (.aload_n 0, 1) := by decide +kernel
theorem dX6_beginFor_1 : decode cX6_beginFor 1 = .ok (.iload_n 1, 1) := by decide +kernel
theorem dX6_beginFor_2 : decode cX6_beginFor 2 = .ok (.invokevirtual 116, 3) := by decide +kernel
theorem dX6_beginFor_5 : decode cX6_beginFor 5 = .ok (.ifCond .eq 27, 3) := by decide +kernel
theorem dX6_beginFor_8 : decode cX6_beginFor 8 = .ok (.iload_n 2, 1) := by decide +kernel
theorem dX6_beginFor_9 : decode cX6_beginFor 9 = .ok (.invokestatic 196, 3) := by decide +kernel
theorem dX6_beginFor_12 : decode cX6_beginFor 12 = .ok (.ifCond .eq 20, 3) := by decide +kernel
theorem dX6_beginFor_15 : decode cX6_beginFor 15 = .ok (.aload_n 0, 1) := by decide +kernel
theorem dX6_beginFor_16 : decode cX6_beginFor 16 = .ok (.iload_n 1, 1) := by decide +kernel
theorem dX6_beginFor_17 : decode cX6_beginFor 17 = .ok (.iconst 1, 1) := by decide +kernel
theorem dX6_beginFor_18 : decode cX6_beginFor 18 = .ok (.invokestatic 77, 3) := by decide +kernel
theorem dX6_beginFor_21 : decode cX6_beginFor 21 = .ok (.iconst 0, 1) := by decide +kernel
theorem dX6_beginFor_22 : decode cX6_beginFor 22 = .ok (.bipush 59, 2) := by decide +kernel
theorem dX6_beginFor_24 : decode cX6_beginFor 24 = .ok (.iconst (-1), 1) := by decide +kernel
theorem dX6_beginFor_25 : decode cX6_beginFor 25 = .ok (.iload_n 2, 1) := by decide +kernel
theorem dX6_beginFor_26 : decode cX6_beginFor 26 = .ok (.invokevirtual 199, 3) := by decide +kernel
theorem dX6_beginFor_29 : decode cX6_beginFor 29 = .ok (.goto 9, 3) := by decide +kernel
theorem dX6_beginFor_32 : decode cX6_beginFor 32 = .ok (.aload_n 0, 1) := by decide +kernel
theorem dX6_beginFor_33 : decode cX6_beginFor 33 = .ok (.ldc 63, 2) := by decide +kernel
theorem dX6_beginFor_35 : decode cX6_beginFor 35 = .ok (.invokevirtual 69, 3) := by decide +kernel
theorem dX6_beginFor_38 : decode cX6_beginFor 38 = .ok (.ireturn, 1) := by decide +kernel
theorem dX6_answerFor_0 : decode cX6_answerFor 0 = .ok (.aload_n 0, 1) := by decide +kernel
theorem dX6_answerFor_1 : decode cX6_answerFor 1 = .ok (.iload_n 1, 1) := by decide +kernel
theorem dX6_answerFor_2 : decode cX6_answerFor 2 = .ok (.invokevirtual 116, 3) := by decide +kernel
theorem dX6_answerFor_5 : decode cX6_answerFor 5 = .ok (.ifCond .eq 10, 3) := by decide +kernel
theorem dX6_answerFor_8 : decode cX6_answerFor 8 = .ok (.iload_n 2, 1) := by decide +kernel
theorem dX6_answerFor_9 : decode cX6_answerFor 9 = .ok (.invokestatic 196, 3) := by decide +kernel
theorem dX6_answerFor_12 : decode cX6_answerFor 12 = .ok (.ifCond .ne 10, 3) := by decide +kernel
theorem dX6_answerFor_15 : decode cX6_answerFor 15 = .ok (.aload_n 0, 1) := by decide +kernel
theorem dX6_answerFor_16 : decode cX6_answerFor 16 = .ok (.ldc 63, 2) := by decide +kernel
theorem dX6_answerFor_18 : decode cX6_answerFor 18 = .ok (.invokevirtual 69, 3) := by decide +kernel
theorem dX6_answerFor_21 : decode cX6_answerFor 21 = .ok (.ireturn, 1) := by decide +kernel
theorem dX6_answerFor_22 : decode cX6_answerFor 22 = .ok (.iload_n 1, 1) := by decide +kernel
theorem dX6_answerFor_23 : decode cX6_answerFor 23 = .ok (.iconst 2, 1) := by decide +kernel
theorem dX6_answerFor_24 : decode cX6_answerFor 24 = .ok (.invokestatic 77, 3) := by decide +kernel
theorem dX6_answerFor_27 : decode cX6_answerFor 27 = .ok (.istore_n 3, 1) := by decide +kernel
theorem dX6_answerFor_28 : decode cX6_answerFor 28 = .ok (.aload_n 0, 1) := by decide +kernel
theorem dX6_answerFor_29 : decode cX6_answerFor 29 = .ok (.getfield 9, 3) := by decide +kernel
theorem dX6_answerFor_32 : decode cX6_answerFor 32 = .ok (.iload_n 3, 1) := by decide +kernel
theorem dX6_answerFor_33 : decode cX6_answerFor 33 = .ok (.iaload, 1) := by decide +kernel
theorem dX6_answerFor_34 : decode cX6_answerFor 34 = .ok (.istore 4, 2) := by decide +kernel
theorem dX6_answerFor_36 : decode cX6_answerFor 36 = .ok (.iconst (-1), 1) := by decide +kernel
theorem dX6_answerFor_37 : decode cX6_answerFor 37 = .ok (.istore 5, 2) := by decide +kernel
theorem dX6_answerFor_39 : decode cX6_answerFor 39 = .ok (.iconst (-1), 1) := by decide +kernel
theorem dX6_answerFor_40 : decode cX6_answerFor 40 = .ok (.istore 6, 2) := by decide +kernel
theorem dX6_answerFor_42 : decode cX6_answerFor 42 = .ok (.iconst 0, 1) := by decide +kernel
theorem dX6_answerFor_43 : decode cX6_answerFor 43 = .ok (.istore 7, 2) := by decide +kernel
theorem dX6_answerFor_45 : decode cX6_answerFor 45 = .ok (.iload 7, 2) := by decide +kernel
theorem dX6_answerFor_47 : decode cX6_answerFor 47 = .ok (.aload_n 0, 1) := by decide +kernel
theorem dX6_answerFor_48 : decode cX6_answerFor 48 = .ok (.getfield 9, 3) := by decide +kernel
theorem dX6_answerFor_51 : decode cX6_answerFor 51 = .ok (.iconst 1, 1) := by decide +kernel
theorem dX6_answerFor_52 : decode cX6_answerFor 52 = .ok (.iaload, 1) := by decide +kernel
theorem dX6_answerFor_53 : decode cX6_answerFor 53 = .ok (.if_icmp .gt 64, 3) := by decide +kernel
theorem dX6_answerFor_56 : decode cX6_answerFor 56 = .ok (.iload 7, 2) := by decide +kernel
theorem dX6_answerFor_58 : decode cX6_answerFor 58 = .ok (.iload_n 1, 1) := by decide +kernel
theorem dX6_answerFor_59 : decode cX6_answerFor 59 = .ok (.if_icmp .eq 52, 3) := by decide +kernel
theorem dX6_answerFor_62 : decode cX6_answerFor 62 = .ok (.aload_n 0, 1) := by decide +kernel
theorem dX6_answerFor_63 : decode cX6_answerFor 63 = .ok (.getfield 9, 3) := by decide +kernel
theorem dX6_answerFor_66 : decode cX6_answerFor 66 = .ok (.iload_n 3, 1) := by decide +kernel
theorem dX6_answerFor_67 : decode cX6_answerFor 67 = .ok (.iload 7, 2) := by decide +kernel
theorem dX6_answerFor_69 : decode cX6_answerFor 69 = .ok (.aload_n 0, 1) := by decide +kernel
theorem dX6_answerFor_70 : decode cX6_answerFor 70 = .ok (.getfield 9, 3) := by decide +kernel
theorem dX6_answerFor_73 : decode cX6_answerFor 73 = .ok (.iconst 1, 1) := by decide +kernel
theorem dX6_answerFor_74 : decode cX6_answerFor 74 = .ok (.iaload, 1) := by decide +kernel
theorem dX6_answerFor_75 : decode cX6_answerFor 75 = .ok (.if_icmp .ne 7, 3) := by decide +kernel
theorem dX6_answerFor_78 : decode cX6_answerFor 78 = .ok (.iconst (-1), 1) := by decide +kernel
theorem dX6_answerFor_79 : decode cX6_answerFor 79 = .ok (.goto 5, 3) := by decide +kernel
theorem dX6_answerFor_82 : decode cX6_answerFor 82 = .ok (.iload 7, 2) := by decide +kernel
theorem dX6_answerFor_84 : decode cX6_answerFor 84 = .ok (.iastore, 1) := by decide +kernel
theorem dX6_answerFor_85 : decode cX6_answerFor 85 = .ok (.aload_n 0, 1) := by decide +kernel
theorem dX6_answerFor_86 : decode cX6_answerFor 86 = .ok (.iload_n 2, 1) := by decide +kernel
theorem dX6_answerFor_87 : decode cX6_answerFor 87 = .ok (.invokevirtual 190, 3) := by decide +kernel
theorem dX6_answerFor_90 : decode cX6_answerFor 90 = .ok (.istore 8, 2) := by decide +kernel
theorem dX6_answerFor_92 : decode cX6_answerFor 92 = .ok (.iload 8, 2) := by decide +kernel
theorem dX6_answerFor_94 : decode cX6_answerFor 94 = .ok (.iload 6, 2) := by decide +kernel
theorem dX6_answerFor_96 : decode cX6_answerFor 96 = .ok (.if_icmp .le 15, 3) := by decide +kernel
theorem dX6_answerFor_99 : decode cX6_answerFor 99 = .ok (.aload_n 0, 1) := by decide +kernel
theorem dX6_answerFor_100 : decode cX6_answerFor 100 = .ok (.getfield 9, 3) := by decide +kernel
theorem dX6_answerFor_103 : decode cX6_answerFor 103 = .ok (.iload_n 3, 1) := by decide +kernel
theorem dX6_answerFor_104 : decode cX6_answerFor 104 = .ok (.iaload, 1) := by decide +kernel
theorem dX6_answerFor_105 : decode cX6_answerFor 105 = .ok (.istore 5, 2) := by decide +kernel
theorem dX6_answerFor_107 : decode cX6_answerFor 107 = .ok (.iload 8, 2) := by decide +kernel
theorem dX6_answerFor_109 : decode cX6_answerFor 109 = .ok (.istore 6, 2) := by decide +kernel
theorem dX6_answerFor_111 : decode cX6_answerFor 111 = .ok (.iinc 7 1, 3) := by decide +kernel
theorem dX6_answerFor_114 : decode cX6_answerFor 114 = .ok (.goto (-69), 3) := by decide +kernel
theorem dX6_answerFor_117 : decode cX6_answerFor 117 = .ok (.aload_n 0, 1) := by decide +kernel
theorem dX6_answerFor_118 : decode cX6_answerFor 118 = .ok (.getfield 9, 3) := by decide +kernel
theorem dX6_answerFor_121 : decode cX6_answerFor 121 = .ok (.iload_n 3, 1) := by decide +kernel
theorem dX6_answerFor_122 : decode cX6_answerFor 122 = .ok (.iload 4, 2) := by decide +kernel
theorem dX6_answerFor_124 : decode cX6_answerFor 124 = .ok (.iastore, 1) := by decide +kernel
theorem dX6_answerFor_125 : decode cX6_answerFor 125 = .ok (.iload 5, 2) := by decide +kernel
theorem dX6_answerFor_127 : decode cX6_answerFor 127 = .ok (.ireturn, 1) := by decide +kernel
theorem dX6_kindFor_0 : decode cX6_kindFor 0 = .ok (.aload_n 0, 1) := by decide +kernel
theorem dX6_kindFor_1 : decode cX6_kindFor 1 = .ok (.iload_n 1, 1) := by decide +kernel
theorem dX6_kindFor_2 : decode cX6_kindFor 2 = .ok (.invokevirtual 116, 3) := by decide +kernel
theorem dX6_kindFor_5 : decode cX6_kindFor 5 = .ok (.ifCond .eq 32, 3) := by decide +kernel
theorem dX6_kindFor_8 : decode cX6_kindFor 8 = .ok (.iload_n 2, 1) := by decide +kernel
theorem dX6_kindFor_9 : decode cX6_kindFor 9 = .ok (.invokestatic 196, 3) := by decide +kernel
theorem dX6_kindFor_12 : decode cX6_kindFor 12 = .ok (.ifCond .eq 25, 3) := by decide +kernel
theorem dX6_kindFor_15 : decode cX6_kindFor 15 = .ok (.aload_n 0, 1) := by decide +kernel
theorem dX6_kindFor_16 : decode cX6_kindFor 16 = .ok (.iload_n 1, 1) := by decide +kernel
theorem dX6_kindFor_17 : decode cX6_kindFor 17 = .ok (.iconst 0, 1) := by decide +kernel
theorem dX6_kindFor_18 : decode cX6_kindFor 18 = .ok (.invokestatic 77, 3) := by decide +kernel
theorem dX6_kindFor_21 : decode cX6_kindFor 21 = .ok (.iconst 0, 1) := by decide +kernel
theorem dX6_kindFor_22 : decode cX6_kindFor 22 = .ok (.bipush 6, 2) := by decide +kernel
theorem dX6_kindFor_24 : decode cX6_kindFor 24 = .ok (.iload_n 1, 1) := by decide +kernel
theorem dX6_kindFor_25 : decode cX6_kindFor 25 = .ok (.bipush 9, 2) := by decide +kernel
theorem dX6_kindFor_27 : decode cX6_kindFor 27 = .ok (.invokestatic 77, 3) := by decide +kernel
theorem dX6_kindFor_30 : decode cX6_kindFor 30 = .ok (.iload_n 2, 1) := by decide +kernel
theorem dX6_kindFor_31 : decode cX6_kindFor 31 = .ok (.invokevirtual 199, 3) := by decide +kernel
theorem dX6_kindFor_34 : decode cX6_kindFor 34 = .ok (.goto 9, 3) := by decide +kernel
theorem dX6_kindFor_37 : decode cX6_kindFor 37 = .ok (.aload_n 0, 1) := by decide +kernel
theorem dX6_kindFor_38 : decode cX6_kindFor 38 = .ok (.ldc 63, 2) := by decide +kernel
theorem dX6_kindFor_40 : decode cX6_kindFor 40 = .ok (.invokevirtual 69, 3) := by decide +kernel
theorem dX6_kindFor_43 : decode cX6_kindFor 43 = .ok (.ireturn, 1) := by decide +kernel
theorem dX6_ageFor_0 : decode cX6_ageFor 0 = .ok (.aload_n 0, 1) := by decide +kernel
theorem dX6_ageFor_1 : decode cX6_ageFor 1 = .ok (.iload_n 1, 1) := by decide +kernel
theorem dX6_ageFor_2 : decode cX6_ageFor 2 = .ok (.invokevirtual 116, 3) := by decide +kernel
theorem dX6_ageFor_5 : decode cX6_ageFor 5 = .ok (.ifCond .eq 13, 3) := by decide +kernel
theorem dX6_ageFor_8 : decode cX6_ageFor 8 = .ok (.iload_n 2, 1) := by decide +kernel
theorem dX6_ageFor_9 : decode cX6_ageFor 9 = .ok (.iconst 0, 1) := by decide +kernel
theorem dX6_ageFor_10 : decode cX6_ageFor 10 = .ok (.bipush 99, 2) := by decide +kernel
theorem dX6_ageFor_12 : decode cX6_ageFor 12 = .ok (.invokestatic 73, 3) := by decide +kernel
theorem dX6_ageFor_15 : decode cX6_ageFor 15 = .ok (.ifCond .ne 10, 3) := by decide +kernel
theorem dX6_ageFor_18 : decode cX6_ageFor 18 = .ok (.aload_n 0, 1) := by decide +kernel
theorem dX6_ageFor_19 : decode cX6_ageFor 19 = .ok (.ldc 63, 2) := by decide +kernel
theorem dX6_ageFor_21 : decode cX6_ageFor 21 = .ok (.invokevirtual 69, 3) := by decide +kernel
theorem dX6_ageFor_24 : decode cX6_ageFor 24 = .ok (.ireturn, 1) := by decide +kernel
theorem dX6_ageFor_25 : decode cX6_ageFor 25 = .ok (.iload_n 1, 1) := by decide +kernel
theorem dX6_ageFor_26 : decode cX6_ageFor 26 = .ok (.iconst 4, 1) := by decide +kernel
theorem dX6_ageFor_27 : decode cX6_ageFor 27 = .ok (.invokestatic 77, 3) := by decide +kernel
theorem dX6_ageFor_30 : decode cX6_ageFor 30 = .ok (.istore_n 3, 1) := by decide +kernel
theorem dX6_ageFor_31 : decode cX6_ageFor 31 = .ok (.aload_n 0, 1) := by decide +kernel
theorem dX6_ageFor_32 : decode cX6_ageFor 32 = .ok (.getfield 9, 3) := by decide +kernel
theorem dX6_ageFor_35 : decode cX6_ageFor 35 = .ok (.iload_n 3, 1) := by decide +kernel
theorem dX6_ageFor_36 : decode cX6_ageFor 36 = .ok (.iaload, 1) := by decide +kernel
theorem dX6_ageFor_37 : decode cX6_ageFor 37 = .ok (.istore 4, 2) := by decide +kernel
theorem dX6_ageFor_39 : decode cX6_ageFor 39 = .ok (.iconst (-1), 1) := by decide +kernel
theorem dX6_ageFor_40 : decode cX6_ageFor 40 = .ok (.istore 5, 2) := by decide +kernel
theorem dX6_ageFor_42 : decode cX6_ageFor 42 = .ok (.iconst 0, 1) := by decide +kernel
theorem dX6_ageFor_43 : decode cX6_ageFor 43 = .ok (.istore 6, 2) := by decide +kernel
theorem dX6_ageFor_45 : decode cX6_ageFor 45 = .ok (.iload 6, 2) := by decide +kernel
theorem dX6_ageFor_47 : decode cX6_ageFor 47 = .ok (.bipush 120, 2) := by decide +kernel
theorem dX6_ageFor_49 : decode cX6_ageFor 49 = .ok (.if_icmp .gt 35, 3) := by decide +kernel
theorem dX6_ageFor_52 : decode cX6_ageFor 52 = .ok (.aload_n 0, 1) := by decide +kernel
theorem dX6_ageFor_53 : decode cX6_ageFor 53 = .ok (.getfield 9, 3) := by decide +kernel
theorem dX6_ageFor_56 : decode cX6_ageFor 56 = .ok (.iload_n 3, 1) := by decide +kernel
theorem dX6_ageFor_57 : decode cX6_ageFor 57 = .ok (.iload 6, 2) := by decide +kernel
theorem dX6_ageFor_59 : decode cX6_ageFor 59 = .ok (.iastore, 1) := by decide +kernel
theorem dX6_ageFor_60 : decode cX6_ageFor 60 = .ok (.aload_n 0, 1) := by decide +kernel
theorem dX6_ageFor_61 : decode cX6_ageFor 61 = .ok (.iload_n 1, 1) := by decide +kernel
theorem dX6_ageFor_62 : decode cX6_ageFor 62 = .ok (.invokevirtual 104, 3) := by decide +kernel
theorem dX6_ageFor_65 : decode cX6_ageFor 65 = .ok (.iload_n 2, 1) := by decide +kernel
theorem dX6_ageFor_66 : decode cX6_ageFor 66 = .ok (.if_icmp .gt 8, 3) := by decide +kernel
theorem dX6_ageFor_69 : decode cX6_ageFor 69 = .ok (.iload 6, 2) := by decide +kernel
theorem dX6_ageFor_71 : decode cX6_ageFor 71 = .ok (.goto 5, 3) := by decide +kernel
theorem dX6_ageFor_74 : decode cX6_ageFor 74 = .ok (.iload 5, 2) := by decide +kernel
theorem dX6_ageFor_76 : decode cX6_ageFor 76 = .ok (.istore 5, 2) := by decide +kernel
theorem dX6_ageFor_78 : decode cX6_ageFor 78 = .ok (.iinc 6 1, 3) := by decide +kernel
theorem dX6_ageFor_81 : decode cX6_ageFor 81 = .ok (.goto (-36), 3) := by decide +kernel
theorem dX6_ageFor_84 : decode cX6_ageFor 84 = .ok (.aload_n 0, 1) := by decide +kernel
theorem dX6_ageFor_85 : decode cX6_ageFor 85 = .ok (.getfield 9, 3) := by decide +kernel
theorem dX6_ageFor_88 : decode cX6_ageFor 88 = .ok (.iload_n 3, 1) := by decide +kernel
theorem dX6_ageFor_89 : decode cX6_ageFor 89 = .ok (.iload 4, 2) := by decide +kernel
theorem dX6_ageFor_91 : decode cX6_ageFor 91 = .ok (.iastore, 1) := by decide +kernel
theorem dX6_ageFor_92 : decode cX6_ageFor 92 = .ok (.aload_n 0, 1) := by decide +kernel
theorem dX6_ageFor_93 : decode cX6_ageFor 93 = .ok (.iload 5, 2) := by decide +kernel
theorem dX6_ageFor_95 : decode cX6_ageFor 95 = .ok (.invokevirtual 184, 3) := by decide +kernel
theorem dX6_ageFor_98 : decode cX6_ageFor 98 = .ok (.ireturn, 1) := by decide +kernel
theorem dX6_isHushed_0 : decode cX6_isHushed 0 = .ok (.aload_n 0, 1) := by decide +kernel
theorem dX6_isHushed_1 : decode cX6_isHushed 1 = .ok (.getfield 9, 3) := by decide +kernel
theorem dX6_isHushed_4 : decode cX6_isHushed 4 = .ok (.aload_n 0, 1) := by decide +kernel
theorem dX6_isHushed_5 : decode cX6_isHushed 5 = .ok (.getfield 16, 3) := by decide +kernel
theorem dX6_isHushed_8 : decode cX6_isHushed 8 = .ok (.invokestatic 64, 3) := by decide +kernel
theorem dX6_isHushed_11 : decode cX6_isHushed 11 = .ok (.iconst 0, 1) := by decide +kernel
theorem dX6_isHushed_12 : decode cX6_isHushed 12 = .ok (.istore_n 3, 1) := by decide +kernel
theorem dX6_isHushed_13 : decode cX6_isHushed 13 = .ok (.iload_n 3, 1) := by decide +kernel
theorem dX6_isHushed_14 : decode cX6_isHushed 14 = .ok (.aload_n 0, 1) := by decide +kernel
theorem dX6_isHushed_15 : decode cX6_isHushed 15 = .ok (.getfield 9, 3) := by decide +kernel
theorem dX6_isHushed_18 : decode cX6_isHushed 18 = .ok (.iconst 1, 1) := by decide +kernel
theorem dX6_isHushed_19 : decode cX6_isHushed 19 = .ok (.iaload, 1) := by decide +kernel
theorem dX6_isHushed_20 : decode cX6_isHushed 20 = .ok (.if_icmp .ge 30, 3) := by decide +kernel
theorem dX6_isHushed_23 : decode cX6_isHushed 23 = .ok (.iload_n 1, 1) := by decide +kernel
theorem dX6_isHushed_24 : decode cX6_isHushed 24 = .ok (.iload_n 3, 1) := by decide +kernel
theorem dX6_isHushed_25 : decode cX6_isHushed 25 = .ok (.ishr, 1) := by decide +kernel
theorem dX6_isHushed_26 : decode cX6_isHushed 26 = .ok (.iconst 1, 1) := by decide +kernel
theorem dX6_isHushed_27 : decode cX6_isHushed 27 = .ok (.iand, 1) := by decide +kernel
theorem dX6_isHushed_28 : decode cX6_isHushed 28 = .ok (.iconst 1, 1) := by decide +kernel
theorem dX6_isHushed_29 : decode cX6_isHushed 29 = .ok (.if_icmp .ne 15, 3) := by decide +kernel
theorem dX6_isHushed_32 : decode cX6_isHushed 32 = .ok (.aload_n 0, 1) := by decide +kernel
theorem dX6_isHushed_33 : decode cX6_isHushed 33 = .ok (.getfield 9, 3) := by decide +kernel
theorem dX6_isHushed_36 : decode cX6_isHushed 36 = .ok (.iload_n 3, 1) := by decide +kernel
theorem dX6_isHushed_37 : decode cX6_isHushed 37 = .ok (.bipush 6, 2) := by decide +kernel
theorem dX6_isHushed_39 : decode cX6_isHushed 39 = .ok (.invokestatic 77, 3) := by decide +kernel
theorem dX6_isHushed_42 : decode cX6_isHushed 42 = .ok (.iconst 1, 1) := by decide +kernel
theorem dX6_isHushed_43 : decode cX6_isHushed 43 = .ok (.iastore, 1) := by decide +kernel
theorem dX6_isHushed_44 : decode cX6_isHushed 44 = .ok (.iinc 3 1, 3) := by decide +kernel
theorem dX6_isHushed_47 : decode cX6_isHushed 47 = .ok (.goto (-34), 3) := by decide +kernel
theorem dX6_isHushed_50 : decode cX6_isHushed 50 = .ok (.aload_n 0, 1) := by decide +kernel
theorem dX6_isHushed_51 : decode cX6_isHushed 51 = .ok (.iload_n 2, 1) := by decide +kernel
theorem dX6_isHushed_52 : decode cX6_isHushed 52 = .ok (.invokevirtual 163, 3) := by decide +kernel
theorem dX6_isHushed_55 : decode cX6_isHushed 55 = .ok (.aload_n 0, 1) := by decide +kernel
theorem dX6_isHushed_56 : decode cX6_isHushed 56 = .ok (.getfield 9, 3) := by decide +kernel
theorem dX6_isHushed_59 : decode cX6_isHushed 59 = .ok (.iconst 3, 1) := by decide +kernel
theorem dX6_isHushed_60 : decode cX6_isHushed 60 = .ok (.iaload, 1) := by decide +kernel
theorem dX6_isHushed_61 : decode cX6_isHushed 61 = .ok (.iload_n 2, 1) := by decide +kernel
theorem dX6_isHushed_62 : decode cX6_isHushed 62 = .ok (.if_icmp .lt 7, 3) := by decide +kernel
theorem dX6_isHushed_65 : decode cX6_isHushed 65 = .ok (.iconst 1, 1) := by decide +kernel
theorem dX6_isHushed_66 : decode cX6_isHushed 66 = .ok (.goto 4, 3) := by decide +kernel
theorem dX6_isHushed_69 : decode cX6_isHushed 69 = .ok (.iconst 0, 1) := by decide +kernel
theorem dX6_isHushed_70 : decode cX6_isHushed 70 = .ok (.istore_n 3, 1) := by decide +kernel
theorem dX6_isHushed_71 : decode cX6_isHushed 71 = .ok (.aload_n 0, 1) := by decide +kernel
theorem dX6_isHushed_72 : decode cX6_isHushed 72 = .ok (.getfield 16, 3) := by decide +kernel
theorem dX6_isHushed_75 : decode cX6_isHushed 75 = .ok (.aload_n 0, 1) := by decide +kernel
theorem dX6_isHushed_76 : decode cX6_isHushed 76 = .ok (.getfield 9, 3) := by decide +kernel
theorem dX6_isHushed_79 : decode cX6_isHushed 79 = .ok (.invokestatic 64, 3) := by decide +kernel
theorem dX6_isHushed_82 : decode cX6_isHushed 82 = .ok (.iload_n 3, 1) := by decide +kernel
theorem dX6_isHushed_83 : decode cX6_isHushed 83 = .ok (.ireturn, 1) := by decide +kernel
theorem dX6_hush_0 : decode cX6_hush 0 = .ok (.iload_n 1, 1) := by decide +kernel
theorem dX6_hush_1 : decode cX6_hush 1 = .ok (.iconst 0, 1) := by decide +kernel
theorem dX6_hush_2 : decode cX6_hush 2 = .ok (.bipush 60, 2) := by decide +kernel
theorem dX6_hush_4 : decode cX6_hush 4 = .ok (.invokestatic 73, 3) := by decide +kernel
theorem dX6_hush_7 : decode cX6_hush 7 = .ok (.ifCond .ne 10, 3) := by decide +kernel
theorem dX6_hush_10 : decode cX6_hush 10 = .ok (.aload_n 0, 1) := by decide +kernel
theorem dX6_hush_11 : decode cX6_hush 11 = .ok (.ldc 63, 2) := by decide +kernel
theorem dX6_hush_13 : decode cX6_hush 13 = .ok (.invokevirtual 69, 3) := by decide +kernel
theorem dX6_hush_16 : decode cX6_hush 16 = .ok (.ireturn, 1) := by decide +kernel
theorem dX6_hush_17 : decode cX6_hush 17 = .ok (.iconst (-1), 1) := by decide +kernel
theorem dX6_hush_18 : decode cX6_hush 18 = .ok (.istore_n 2, 1) := by decide +kernel
theorem dX6_hush_19 : decode cX6_hush 19 = .ok (.iconst 1, 1) := by decide +kernel
theorem dX6_hush_20 : decode cX6_hush 20 = .ok (.aload_n 0, 1) := by decide +kernel
theorem dX6_hush_21 : decode cX6_hush 21 = .ok (.getfield 9, 3) := by decide +kernel
theorem dX6_hush_24 : decode cX6_hush 24 = .ok (.iconst 1, 1) := by decide +kernel
theorem dX6_hush_25 : decode cX6_hush 25 = .ok (.iaload, 1) := by decide +kernel
theorem dX6_hush_26 : decode cX6_hush 26 = .ok (.ishl, 1) := by decide +kernel
theorem dX6_hush_27 : decode cX6_hush 27 = .ok (.iconst 1, 1) := by decide +kernel
theorem dX6_hush_28 : decode cX6_hush 28 = .ok (.isub, 1) := by decide +kernel
theorem dX6_hush_29 : decode cX6_hush 29 = .ok (.istore_n 3, 1) := by decide +kernel
theorem dX6_hush_30 : decode cX6_hush 30 = .ok (.iload_n 3, 1) := by decide +kernel
theorem dX6_hush_31 : decode cX6_hush 31 = .ok (.ifCond .lt 39, 3) := by decide +kernel
theorem dX6_hush_34 : decode cX6_hush 34 = .ok (.iload_n 2, 1) := by decide +kernel
theorem dX6_hush_35 : decode cX6_hush 35 = .ok (.ifCond .lt 14, 3) := by decide +kernel
theorem dX6_hush_38 : decode cX6_hush 38 = .ok (.iload_n 3, 1) := by decide +kernel
theorem dX6_hush_39 : decode cX6_hush 39 = .ok (.invokestatic 203, 3) := by decide +kernel
theorem dX6_hush_42 : decode cX6_hush 42 = .ok (.iload_n 2, 1) := by decide +kernel
theorem dX6_hush_43 : decode cX6_hush 43 = .ok (.invokestatic 203, 3) := by decide +kernel
theorem dX6_hush_46 : decode cX6_hush 46 = .ok (.if_icmp .gt 16, 3) := by decide +kernel
theorem dX6_hush_49 : decode cX6_hush 49 = .ok (.aload_n 0, 1) := by decide +kernel
theorem dX6_hush_50 : decode cX6_hush 50 = .ok (.iload_n 3, 1) := by decide +kernel
theorem dX6_hush_51 : decode cX6_hush 51 = .ok (.iload_n 1, 1) := by decide +kernel
theorem dX6_hush_52 : decode cX6_hush 52 = .ok (.invokevirtual 206, 3) := by decide +kernel
theorem dX6_hush_55 : decode cX6_hush 55 = .ok (.ifCond .eq 7, 3) := by decide +kernel
theorem dX6_hush_58 : decode cX6_hush 58 = .ok (.iload_n 3, 1) := by decide +kernel
theorem dX6_hush_59 : decode cX6_hush 59 = .ok (.goto 4, 3) := by decide +kernel
theorem dX6_hush_62 : decode cX6_hush 62 = .ok (.iload_n 2, 1) := by decide +kernel
theorem dX6_hush_63 : decode cX6_hush 63 = .ok (.istore_n 2, 1) := by decide +kernel
theorem dX6_hush_64 : decode cX6_hush 64 = .ok (.iinc 3 (-1), 3) := by decide +kernel
theorem dX6_hush_67 : decode cX6_hush 67 = .ok (.goto (-37), 3) := by decide +kernel
theorem dX6_hush_70 : decode cX6_hush 70 = .ok (.aload_n 0, 1) := by decide +kernel
theorem dX6_hush_71 : decode cX6_hush 71 = .ok (.iload_n 2, 1) := by decide +kernel
theorem dX6_hush_72 : decode cX6_hush 72 = .ok (.invokevirtual 184, 3) := by decide +kernel
theorem dX6_hush_75 : decode cX6_hush 75 = .ok (.ireturn, 1) := by decide +kernel
theorem dX6_longest_0 : decode cX6_longest 0 = .ok (.iload_n 1, 1) := by decide +kernel
theorem dX6_longest_1 : decode cX6_longest 1 = .ok (.iconst 0, 1) := by decide +kernel
theorem dX6_longest_2 : decode cX6_longest 2 = .ok (.sipush 200, 3) := by decide +kernel
theorem dX6_longest_5 : decode cX6_longest 5 = .ok (.invokestatic 73, 3) := by decide +kernel
theorem dX6_longest_8 : decode cX6_longest 8 = .ok (.ifCond .ne 10, 3) := by decide +kernel
theorem dX6_longest_11 : decode cX6_longest 11 = .ok (.aload_n 0, 1) := by decide +kernel
theorem dX6_longest_12 : decode cX6_longest 12 = .ok (.ldc 63, 2) := by decide +kernel
theorem dX6_longest_14 : decode cX6_longest 14 = .ok (.invokevirtual 69, 3) := by decide +kernel
theorem dX6_longest_17 : decode cX6_longest 17 = .ok (.ireturn, 1) := by decide +kernel
theorem dX6_longest_18 : decode cX6_longest 18 = .ok (.aload_n 0, 1) := by decide +kernel
theorem dX6_longest_19 : decode cX6_longest 19 = .ok (.getfield 9, 3) := by decide +kernel
theorem dX6_longest_22 : decode cX6_longest 22 = .ok (.aload_n 0, 1) := by decide +kernel
theorem dX6_longest_23 : decode cX6_longest 23 = .ok (.getfield 16, 3) := by decide +kernel
theorem dX6_longest_26 : decode cX6_longest 26 = .ok (.invokestatic 64, 3) := by decide +kernel
theorem dX6_longest_29 : decode cX6_longest 29 = .ok (.aload_n 0, 1) := by decide +kernel
theorem dX6_longest_30 : decode cX6_longest 30 = .ok (.getfield 9, 3) := by decide +kernel
theorem dX6_longest_33 : decode cX6_longest 33 = .ok (.iconst 3, 1) := by decide +kernel
theorem dX6_longest_34 : decode cX6_longest 34 = .ok (.iaload, 1) := by decide +kernel
theorem dX6_longest_35 : decode cX6_longest 35 = .ok (.istore_n 2, 1) := by decide +kernel
theorem dX6_longest_36 : decode cX6_longest 36 = .ok (.iconst 0, 1) := by decide +kernel
theorem dX6_longest_37 : decode cX6_longest 37 = .ok (.istore_n 3, 1) := by decide +kernel
theorem dX6_longest_38 : decode cX6_longest 38 = .ok (.iload_n 3, 1) := by decide +kernel
theorem dX6_longest_39 : decode cX6_longest 39 = .ok (.iload_n 1, 1) := by decide +kernel
theorem dX6_longest_40 : decode cX6_longest 40 = .ok (.if_icmp .ge 24, 3) := by decide +kernel
theorem dX6_longest_43 : decode cX6_longest 43 = .ok (.aload_n 0, 1) := by decide +kernel
theorem dX6_longest_44 : decode cX6_longest 44 = .ok (.invokevirtual 160, 3) := by decide +kernel
theorem dX6_longest_47 : decode cX6_longest 47 = .ok (.iload_n 2, 1) := by decide +kernel
theorem dX6_longest_48 : decode cX6_longest 48 = .ok (.aload_n 0, 1) := by decide +kernel
theorem dX6_longest_49 : decode cX6_longest 49 = .ok (.getfield 9, 3) := by decide +kernel
theorem dX6_longest_52 : decode cX6_longest 52 = .ok (.iconst 3, 1) := by decide +kernel
theorem dX6_longest_53 : decode cX6_longest 53 = .ok (.iaload, 1) := by decide +kernel
theorem dX6_longest_54 : decode cX6_longest 54 = .ok (.invokestatic 142, 3) := by decide +kernel
theorem dX6_longest_57 : decode cX6_longest 57 = .ok (.istore_n 2, 1) := by decide +kernel
theorem dX6_longest_58 : decode cX6_longest 58 = .ok (.iinc 3 1, 3) := by decide +kernel
theorem dX6_longest_61 : decode cX6_longest 61 = .ok (.goto (-23), 3) := by decide +kernel
theorem dX6_longest_64 : decode cX6_longest 64 = .ok (.aload_n 0, 1) := by decide +kernel
theorem dX6_longest_65 : decode cX6_longest 65 = .ok (.iload_n 2, 1) := by decide +kernel
theorem dX6_longest_66 : decode cX6_longest 66 = .ok (.invokevirtual 178, 3) := by decide +kernel
theorem dX6_longest_69 : decode cX6_longest 69 = .ok (.ireturn, 1) := by decide +kernel
theorem dX6_lacks_0 : decode cX6_lacks 0 = .ok (.iload_n 1, 1) := by decide +kernel
theorem dX6_lacks_1 : decode cX6_lacks 1 = .ok (.invokestatic 210, 3) := by decide +kernel
theorem dX6_lacks_4 : decode cX6_lacks 4 = .ok (.ifCond .ne 8, 3) := by decide +kernel
theorem dX6_lacks_7 : decode cX6_lacks 7 = .ok (.ldc 63, 2) := by decide +kernel
theorem dX6_lacks_9 : decode cX6_lacks 9 = .ok (.goto 27, 3) := by decide +kernel
theorem dX6_lacks_12 : decode cX6_lacks 12 = .ok (.aload_n 0, 1) := by decide +kernel
theorem dX6_lacks_13 : decode cX6_lacks 13 = .ok (.getfield 51, 3) := by decide +kernel
theorem dX6_lacks_16 : decode cX6_lacks 16 = .ok (.iload_n 1, 1) := by decide +kernel
theorem dX6_lacks_17 : decode cX6_lacks 17 = .ok (.iaload, 1) := by decide +kernel
theorem dX6_lacks_18 : decode cX6_lacks 18 = .ok (.ifCond .ne 8, 3) := by decide +kernel
theorem dX6_lacks_21 : decode cX6_lacks 21 = .ok (.ldc 213, 2) := by decide +kernel
theorem dX6_lacks_23 : decode cX6_lacks 23 = .ok (.goto 13, 3) := by decide +kernel
theorem dX6_lacks_26 : decode cX6_lacks 26 = .ok (.iload_n 2, 1) := by decide +kernel
theorem dX6_lacks_27 : decode cX6_lacks 27 = .ok (.ifCond .eq 7, 3) := by decide +kernel
theorem dX6_lacks_30 : decode cX6_lacks 30 = .ok (.iconst 0, 1) := by decide +kernel
theorem dX6_lacks_31 : decode cX6_lacks 31 = .ok (.goto 5, 3) := by decide +kernel
theorem dX6_lacks_34 : decode cX6_lacks 34 = .ok (.ldc 63, 2) := by decide +kernel
theorem dX6_lacks_36 : decode cX6_lacks 36 = .ok (.ireturn, 1) := by decide +kernel
theorem dX6_isSo_0 : decode cX6_isSo 0 = .ok (.aload_n 0, 1) := by decide +kernel
theorem dX6_isSo_1 : decode cX6_isSo 1 = .ok (.getfield 9, 3) := by decide +kernel
theorem dX6_isSo_4 : decode cX6_isSo 4 = .ok (.aload_n 0, 1) := by decide +kernel
theorem dX6_isSo_5 : decode cX6_isSo 5 = .ok (.getfield 16, 3) := by decide +kernel
theorem dX6_isSo_8 : decode cX6_isSo 8 = .ok (.invokestatic 64, 3) := by decide +kernel
theorem dX6_isSo_11 : decode cX6_isSo 11 = .ok (.iconst 1, 1) := by decide +kernel
theorem dX6_isSo_12 : decode cX6_isSo 12 = .ok (.istore_n 3, 1) := by decide +kernel
theorem dX6_isSo_13 : decode cX6_isSo 13 = .ok (.iconst 0, 1) := by decide +kernel
theorem dX6_isSo_14 : decode cX6_isSo 14 = .ok (.istore 4, 2) := by decide +kernel
theorem dX6_isSo_16 : decode cX6_isSo 16 = .ok (.iload 4, 2) := by decide +kernel
theorem dX6_isSo_18 : decode cX6_isSo 18 = .ok (.aload_n 0, 1) := by decide +kernel
theorem dX6_isSo_19 : decode cX6_isSo 19 = .ok (.getfield 54, 3) := by decide +kernel
theorem dX6_isSo_22 : decode cX6_isSo 22 = .ok (.iload_n 1, 1) := by decide +kernel
theorem dX6_isSo_23 : decode cX6_isSo 23 = .ok (.iaload, 1) := by decide +kernel
theorem dX6_isSo_24 : decode cX6_isSo 24 = .ok (.if_icmp .ge 54, 3) := by decide +kernel
theorem dX6_isSo_27 : decode cX6_isSo 27 = .ok (.iload_n 3, 1) := by decide +kernel
theorem dX6_isSo_28 : decode cX6_isSo 28 = .ok (.ifCond .eq 50, 3) := by decide +kernel
theorem dX6_isSo_31 : decode cX6_isSo 31 = .ok (.aload_n 0, 1) := by decide +kernel
theorem dX6_isSo_32 : decode cX6_isSo 32 = .ok (.getfield 57, 3) := by decide +kernel
theorem dX6_isSo_35 : decode cX6_isSo 35 = .ok (.bipush 40, 2) := by decide +kernel
theorem dX6_isSo_37 : decode cX6_isSo 37 = .ok (.iload_n 1, 1) := by decide +kernel
theorem dX6_isSo_38 : decode cX6_isSo 38 = .ok (.imul, 1) := by decide +kernel
theorem dX6_isSo_39 : decode cX6_isSo 39 = .ok (.iload 4, 2) := by decide +kernel
theorem dX6_isSo_41 : decode cX6_isSo 41 = .ok (.iadd, 1) := by decide +kernel
theorem dX6_isSo_42 : decode cX6_isSo 42 = .ok (.iaload, 1) := by decide +kernel
theorem dX6_isSo_43 : decode cX6_isSo 43 = .ok (.istore 5, 2) := by decide +kernel
theorem dX6_isSo_45 : decode cX6_isSo 45 = .ok (.iload 5, 2) := by decide +kernel
theorem dX6_isSo_47 : decode cX6_isSo 47 = .ok (.iconst (-1), 1) := by decide +kernel
theorem dX6_isSo_48 : decode cX6_isSo 48 = .ok (.if_icmp .eq 14, 3) := by decide +kernel
theorem dX6_isSo_51 : decode cX6_isSo 51 = .ok (.iload 5, 2) := by decide +kernel
theorem dX6_isSo_53 : decode cX6_isSo 53 = .ok (.aload_n 0, 1) := by decide +kernel
theorem dX6_isSo_54 : decode cX6_isSo 54 = .ok (.getfield 9, 3) := by decide +kernel
theorem dX6_isSo_57 : decode cX6_isSo 57 = .ok (.iload_n 2, 1) := by decide +kernel
theorem dX6_isSo_58 : decode cX6_isSo 58 = .ok (.iaload, 1) := by decide +kernel
theorem dX6_isSo_59 : decode cX6_isSo 59 = .ok (.if_icmp .ne 7, 3) := by decide +kernel
theorem dX6_isSo_62 : decode cX6_isSo 62 = .ok (.iconst 1, 1) := by decide +kernel
theorem dX6_isSo_63 : decode cX6_isSo 63 = .ok (.goto 4, 3) := by decide +kernel
theorem dX6_isSo_66 : decode cX6_isSo 66 = .ok (.iconst 0, 1) := by decide +kernel
theorem dX6_isSo_67 : decode cX6_isSo 67 = .ok (.istore_n 3, 1) := by decide +kernel
theorem dX6_isSo_68 : decode cX6_isSo 68 = .ok (.aload_n 0, 1) := by decide +kernel
theorem dX6_isSo_69 : decode cX6_isSo 69 = .ok (.invokevirtual 160, 3) := by decide +kernel
theorem dX6_isSo_72 : decode cX6_isSo 72 = .ok (.iinc 4 1, 3) := by decide +kernel
theorem dX6_isSo_75 : decode cX6_isSo 75 = .ok (.goto (-59), 3) := by decide +kernel
theorem dX6_isSo_78 : decode cX6_isSo 78 = .ok (.aload_n 0, 1) := by decide +kernel
theorem dX6_isSo_79 : decode cX6_isSo 79 = .ok (.getfield 16, 3) := by decide +kernel
theorem dX6_isSo_82 : decode cX6_isSo 82 = .ok (.aload_n 0, 1) := by decide +kernel
theorem dX6_isSo_83 : decode cX6_isSo 83 = .ok (.getfield 9, 3) := by decide +kernel
theorem dX6_isSo_86 : decode cX6_isSo 86 = .ok (.invokestatic 64, 3) := by decide +kernel
theorem dX6_isSo_89 : decode cX6_isSo 89 = .ok (.iload_n 3, 1) := by decide +kernel
theorem dX6_isSo_90 : decode cX6_isSo 90 = .ok (.ireturn, 1) := by decide +kernel
theorem dX6_fitting_0 : decode cX6_fitting 0 = .ok (.aload_n 0, 1) := by decide +kernel
theorem dX6_fitting_1 : decode cX6_fitting 1 = .ok (.getfield 9, 3) := by decide +kernel
theorem dX6_fitting_4 : decode cX6_fitting 4 = .ok (.iload_n 3, 1) := by decide +kernel
theorem dX6_fitting_5 : decode cX6_fitting 5 = .ok (.iaload, 1) := by decide +kernel
theorem dX6_fitting_6 : decode cX6_fitting 6 = .ok (.istore 5, 2) := by decide +kernel
theorem dX6_fitting_8 : decode cX6_fitting 8 = .ok (.iconst 0, 1) := by decide +kernel
theorem dX6_fitting_9 : decode cX6_fitting 9 = .ok (.istore 6, 2) := by decide +kernel
theorem dX6_fitting_11 : decode cX6_fitting 11 = .ok (.iconst 0, 1) := by decide +kernel
theorem dX6_fitting_12 : decode cX6_fitting 12 = .ok (.istore 7, 2) := by decide +kernel
theorem dX6_fitting_14 : decode cX6_fitting 14 = .ok (.aload_n 0, 1) := by decide +kernel
theorem dX6_fitting_15 : decode cX6_fitting 15 = .ok (.iconst (-1), 1) := by decide +kernel
theorem dX6_fitting_16 : decode cX6_fitting 16 = .ok (.putfield 214, 3) := by decide +kernel
theorem dX6_fitting_19 : decode cX6_fitting 19 = .ok (.iconst 0, 1) := by decide +kernel
theorem dX6_fitting_20 : decode cX6_fitting 20 = .ok (.istore 8, 2) := by decide +kernel
theorem dX6_fitting_22 : decode cX6_fitting 22 = .ok (.iload 8, 2) := by decide +kernel
theorem dX6_fitting_24 : decode cX6_fitting 24 = .ok (.iload 4, 2) := by decide +kernel
theorem dX6_fitting_26 : decode cX6_fitting 26 = .ok (.if_icmp .ge 74, 3) := by decide +kernel
theorem dX6_fitting_29 : decode cX6_fitting 29 = .ok (.aload_n 0, 1) := by decide +kernel
theorem dX6_fitting_30 : decode cX6_fitting 30 = .ok (.getfield 9, 3) := by decide +kernel
theorem dX6_fitting_33 : decode cX6_fitting 33 = .ok (.iload_n 3, 1) := by decide +kernel
theorem dX6_fitting_34 : decode cX6_fitting 34 = .ok (.iload 8, 2) := by decide +kernel
theorem dX6_fitting_36 : decode cX6_fitting 36 = .ok (.iastore, 1) := by decide +kernel
theorem dX6_fitting_37 : decode cX6_fitting 37 = .ok (.aload_n 0, 1) := by decide +kernel
theorem dX6_fitting_38 : decode cX6_fitting 38 = .ok (.iload_n 1, 1) := by decide +kernel
theorem dX6_fitting_39 : decode cX6_fitting 39 = .ok (.iload_n 2, 1) := by decide +kernel
theorem dX6_fitting_40 : decode cX6_fitting 40 = .ok (.bipush 7, 2) := by decide +kernel
theorem dX6_fitting_42 : decode cX6_fitting 42 = .ok (.invokestatic 77, 3) := by decide +kernel
theorem dX6_fitting_45 : decode cX6_fitting 45 = .ok (.invokevirtual 218, 3) := by decide +kernel
theorem dX6_fitting_48 : decode cX6_fitting 48 = .ok (.ifCond .eq 46, 3) := by decide +kernel
theorem dX6_fitting_51 : decode cX6_fitting 51 = .ok (.iinc 7 1, 3) := by decide +kernel
theorem dX6_fitting_54 : decode cX6_fitting 54 = .ok (.aload_n 0, 1) := by decide +kernel
theorem dX6_fitting_55 : decode cX6_fitting 55 = .ok (.aload_n 0, 1) := by decide +kernel
theorem dX6_fitting_56 : decode cX6_fitting 56 = .ok (.getfield 214, 3) := by decide +kernel
theorem dX6_fitting_59 : decode cX6_fitting 59 = .ok (.ifCond .ge 8, 3) := by decide +kernel
theorem dX6_fitting_62 : decode cX6_fitting 62 = .ok (.iload 8, 2) := by decide +kernel
theorem dX6_fitting_64 : decode cX6_fitting 64 = .ok (.goto 7, 3) := by decide +kernel
theorem dX6_fitting_67 : decode cX6_fitting 67 = .ok (.aload_n 0, 1) := by decide +kernel
theorem dX6_fitting_68 : decode cX6_fitting 68 = .ok (.getfield 214, 3) := by decide +kernel
theorem dX6_fitting_71 : decode cX6_fitting 71 = .ok (.putfield 214, 3) := by decide +kernel
theorem dX6_fitting_74 : decode cX6_fitting 74 = .ok (.iload 6, 2) := by decide +kernel
theorem dX6_fitting_76 : decode cX6_fitting 76 = .ok (.iload 8, 2) := by decide +kernel
theorem dX6_fitting_78 : decode cX6_fitting 78 = .ok (.bipush 32, 2) := by decide +kernel
theorem dX6_fitting_80 : decode cX6_fitting 80 = .ok (.if_icmp .ge 10, 3) := by decide +kernel
theorem dX6_fitting_83 : decode cX6_fitting 83 = .ok (.iconst 1, 1) := by decide +kernel
theorem dX6_fitting_84 : decode cX6_fitting 84 = .ok (.iload 8, 2) := by decide +kernel
theorem dX6_fitting_86 : decode cX6_fitting 86 = .ok (.ishl, 1) := by decide +kernel
theorem dX6_fitting_87 : decode cX6_fitting 87 = .ok (.goto 4, 3) := by decide +kernel
theorem dX6_fitting_90 : decode cX6_fitting 90 = .ok (.iconst 0, 1) := by decide +kernel
theorem dX6_fitting_91 : decode cX6_fitting 91 = .ok (.ior, 1) := by decide +kernel
theorem dX6_fitting_92 : decode cX6_fitting 92 = .ok (.istore 6, 2) := by decide +kernel
theorem dX6_fitting_94 : decode cX6_fitting 94 = .ok (.iinc 8 1, 3) := by decide +kernel
theorem dX6_fitting_97 : decode cX6_fitting 97 = .ok (.goto (-75), 3) := by decide +kernel
theorem dX6_fitting_100 : decode cX6_fitting 100 = .ok (.aload_n 0, 1) := by decide +kernel
theorem dX6_fitting_101 : decode cX6_fitting 101 = .ok (.getfield 9, 3) := by decide +kernel
theorem dX6_fitting_104 : decode cX6_fitting 104 = .ok (.iload_n 3, 1) := by decide +kernel
theorem dX6_fitting_105 : decode cX6_fitting 105 = .ok (.iload 5, 2) := by decide +kernel
theorem dX6_fitting_107 : decode cX6_fitting 107 = .ok (.iastore, 1) := by decide +kernel
theorem dX6_fitting_108 : decode cX6_fitting 108 = .ok (.iload 4, 2) := by decide +kernel
theorem dX6_fitting_110 : decode cX6_fitting 110 = .ok (.bipush 60, 2) := by decide +kernel
theorem dX6_fitting_112 : decode cX6_fitting 112 = .ok (.if_icmp .ne 8, 3) := by decide +kernel
theorem dX6_fitting_115 : decode cX6_fitting 115 = .ok (.iload 7, 2) := by decide +kernel
theorem dX6_fitting_117 : decode cX6_fitting 117 = .ok (.goto 5, 3) := by decide +kernel
theorem dX6_fitting_120 : decode cX6_fitting 120 = .ok (.iload 6, 2) := by decide +kernel
theorem dX6_fitting_122 : decode cX6_fitting 122 = .ok (.ireturn, 1) := by decide +kernel
theorem dX6_fits_0 : decode cX6_fits 0 = .ok (.aload_n 0, 1) := by decide +kernel
theorem dX6_fits_1 : decode cX6_fits 1 = .ok (.iload_n 1, 1) := by decide +kernel
theorem dX6_fits_2 : decode cX6_fits 2 = .ok (.aload_n 0, 1) := by decide +kernel
theorem dX6_fits_3 : decode cX6_fits 3 = .ok (.iload_n 2, 1) := by decide +kernel
theorem dX6_fits_4 : decode cX6_fits 4 = .ok (.invokevirtual 116, 3) := by decide +kernel
theorem dX6_fits_7 : decode cX6_fits 7 = .ok (.invokevirtual 221, 3) := by decide +kernel
theorem dX6_fits_10 : decode cX6_fits 10 = .ok (.istore_n 3, 1) := by decide +kernel
theorem dX6_fits_11 : decode cX6_fits 11 = .ok (.iload_n 3, 1) := by decide +kernel
theorem dX6_fits_12 : decode cX6_fits 12 = .ok (.ifCond .eq 11, 3) := by decide +kernel
theorem dX6_fits_15 : decode cX6_fits 15 = .ok (.aload_n 0, 1) := by decide +kernel
theorem dX6_fits_16 : decode cX6_fits 16 = .ok (.iload_n 3, 1) := by decide +kernel
theorem dX6_fits_17 : decode cX6_fits 17 = .ok (.invokevirtual 69, 3) := by decide +kernel
theorem dX6_fits_20 : decode cX6_fits 20 = .ok (.goto 16, 3) := by decide +kernel
theorem dX6_fits_23 : decode cX6_fits 23 = .ok (.aload_n 0, 1) := by decide +kernel
theorem dX6_fits_24 : decode cX6_fits 24 = .ok (.iload_n 1, 1) := by decide +kernel
theorem dX6_fits_25 : decode cX6_fits 25 = .ok (.iload_n 2, 1) := by decide +kernel
theorem dX6_fits_26 : decode cX6_fits 26 = .ok (.iload_n 2, 1) := by decide +kernel
theorem dX6_fits_27 : decode cX6_fits 27 = .ok (.iconst 1, 1) := by decide +kernel
theorem dX6_fits_28 : decode cX6_fits 28 = .ok (.invokestatic 77, 3) := by decide +kernel
theorem dX6_fits_31 : decode cX6_fits 31 = .ok (.bipush 60, 2) := by decide +kernel
theorem dX6_fits_33 : decode cX6_fits 33 = .ok (.invokevirtual 225, 3) := by decide +kernel
theorem dX6_fits_36 : decode cX6_fits 36 = .ok (.ireturn, 1) := by decide +kernel
theorem dX6_date_0 : decode cX6_date 0 = .ok (.aload_n 0, 1) := by decide +kernel
theorem dX6_date_1 : decode cX6_date 1 = .ok (.iload_n 1, 1) := by decide +kernel
theorem dX6_date_2 : decode cX6_date 2 = .ok (.iload_n 2, 1) := by decide +kernel
theorem dX6_date_3 : decode cX6_date 3 = .ok (.invokevirtual 229, 3) := by decide +kernel
theorem dX6_date_6 : decode cX6_date 6 = .ok (.istore_n 3, 1) := by decide +kernel
theorem dX6_date_7 : decode cX6_date 7 = .ok (.iload_n 3, 1) := by decide +kernel
theorem dX6_date_8 : decode cX6_date 8 = .ok (.ifCond .ge 7, 3) := by decide +kernel
theorem dX6_date_11 : decode cX6_date 11 = .ok (.iload_n 3, 1) := by decide +kernel
theorem dX6_date_12 : decode cX6_date 12 = .ok (.goto 11, 3) := by decide +kernel
theorem dX6_date_15 : decode cX6_date 15 = .ok (.aload_n 0, 1) := by decide +kernel
theorem dX6_date_16 : decode cX6_date 16 = .ok (.aload_n 0, 1) := by decide +kernel
theorem dX6_date_17 : decode cX6_date 17 = .ok (.getfield 214, 3) := by decide +kernel
theorem dX6_date_20 : decode cX6_date 20 = .ok (.invokevirtual 184, 3) := by decide +kernel
theorem dX6_date_23 : decode cX6_date 23 = .ok (.ireturn, 1) := by decide +kernel
theorem dX6_kinds_0 : decode cX6_kinds 0 = .ok (.aload_n 0, 1) := by decide +kernel
theorem dX6_kinds_1 : decode cX6_kinds 1 = .ok (.iload_n 1, 1) := by decide +kernel
theorem dX6_kinds_2 : decode cX6_kinds 2 = .ok (.aload_n 0, 1) := by decide +kernel
theorem dX6_kinds_3 : decode cX6_kinds 3 = .ok (.iload_n 2, 1) := by decide +kernel
theorem dX6_kinds_4 : decode cX6_kinds 4 = .ok (.invokevirtual 116, 3) := by decide +kernel
theorem dX6_kinds_7 : decode cX6_kinds 7 = .ok (.invokevirtual 221, 3) := by decide +kernel
theorem dX6_kinds_10 : decode cX6_kinds 10 = .ok (.istore_n 3, 1) := by decide +kernel
theorem dX6_kinds_11 : decode cX6_kinds 11 = .ok (.iload_n 3, 1) := by decide +kernel
theorem dX6_kinds_12 : decode cX6_kinds 12 = .ok (.ifCond .eq 11, 3) := by decide +kernel
theorem dX6_kinds_15 : decode cX6_kinds 15 = .ok (.aload_n 0, 1) := by decide +kernel
theorem dX6_kinds_16 : decode cX6_kinds 16 = .ok (.iload_n 3, 1) := by decide +kernel
theorem dX6_kinds_17 : decode cX6_kinds 17 = .ok (.invokevirtual 69, 3) := by decide +kernel
theorem dX6_kinds_20 : decode cX6_kinds 20 = .ok (.goto 16, 3) := by decide +kernel
theorem dX6_kinds_23 : decode cX6_kinds 23 = .ok (.aload_n 0, 1) := by decide +kernel
theorem dX6_kinds_24 : decode cX6_kinds 24 = .ok (.iload_n 1, 1) := by decide +kernel
theorem dX6_kinds_25 : decode cX6_kinds 25 = .ok (.iload_n 2, 1) := by decide +kernel
theorem dX6_kinds_26 : decode cX6_kinds 26 = .ok (.iload_n 2, 1) := by decide +kernel
theorem dX6_kinds_27 : decode cX6_kinds 27 = .ok (.iconst 0, 1) := by decide +kernel
theorem dX6_kinds_28 : decode cX6_kinds 28 = .ok (.invokestatic 77, 3) := by decide +kernel
theorem dX6_kinds_31 : decode cX6_kinds 31 = .ok (.bipush 7, 2) := by decide +kernel
theorem dX6_kinds_33 : decode cX6_kinds 33 = .ok (.invokevirtual 225, 3) := by decide +kernel
theorem dX6_kinds_36 : decode cX6_kinds 36 = .ok (.ireturn, 1) := by decide +kernel
theorem dX6_drawn_0 : decode cX6_drawn 0 = .ok (.aload_n 0, 1) := by decide +kernel
theorem dX6_drawn_1 : decode cX6_drawn 1 = .ok (.getfield 9, 3) := by decide +kernel
theorem dX6_drawn_4 : decode cX6_drawn 4 = .ok (.iconst 2, 1) := by decide +kernel
theorem dX6_drawn_5 : decode cX6_drawn 5 = .ok (.aload_n 0, 1) := by decide +kernel
theorem dX6_drawn_6 : decode cX6_drawn 6 = .ok (.getfield 9, 3) := by decide +kernel
theorem dX6_drawn_9 : decode cX6_drawn 9 = .ok (.iconst 2, 1) := by decide +kernel
theorem dX6_drawn_10 : decode cX6_drawn 10 = .ok (.iaload, 1) := by decide +kernel
theorem dX6_drawn_11 : decode cX6_drawn 11 = .ok (.ldc 232, 2) := by decide +kernel
theorem dX6_drawn_13 : decode cX6_drawn 13 = .ok (.imul, 1) := by decide +kernel
theorem dX6_drawn_14 : decode cX6_drawn 14 = .ok (.sipush 12345, 3) := by decide +kernel
theorem dX6_drawn_17 : decode cX6_drawn 17 = .ok (.iadd, 1) := by decide +kernel
theorem dX6_drawn_18 : decode cX6_drawn 18 = .ok (.iastore, 1) := by decide +kernel
theorem dX6_drawn_19 : decode cX6_drawn 19 = .ok (.aload_n 0, 1) := by decide +kernel
theorem dX6_drawn_20 : decode cX6_drawn 20 = .ok (.getfield 9, 3) := by decide +kernel
theorem dX6_drawn_23 : decode cX6_drawn 23 = .ok (.iconst 2, 1) := by decide +kernel
theorem dX6_drawn_24 : decode cX6_drawn 24 = .ok (.iaload, 1) := by decide +kernel
theorem dX6_drawn_25 : decode cX6_drawn 25 = .ok (.bipush 8, 2) := by decide +kernel
theorem dX6_drawn_27 : decode cX6_drawn 27 = .ok (.iushr, 1) := by decide +kernel
theorem dX6_drawn_28 : decode cX6_drawn 28 = .ok (.ireturn, 1) := by decide +kernel
theorem dX6_spring_0 : decode cX6_spring 0 = .ok (.iload_n 1, 1) := by decide +kernel
theorem dX6_spring_1 : decode cX6_spring 1 = .ok (.iconst 1, 1) := by decide +kernel
theorem dX6_spring_2 : decode cX6_spring 2 = .ok (.bipush 20, 2) := by decide +kernel
theorem dX6_spring_4 : decode cX6_spring 4 = .ok (.invokestatic 73, 3) := by decide +kernel
theorem dX6_spring_7 : decode cX6_spring 7 = .ok (.ifCond .ne 10, 3) := by decide +kernel
theorem dX6_spring_10 : decode cX6_spring 10 = .ok (.aload_n 0, 1) := by decide +kernel
theorem dX6_spring_11 : decode cX6_spring 11 = .ok (.ldc 63, 2) := by decide +kernel
theorem dX6_spring_13 : decode cX6_spring 13 = .ok (.invokevirtual 69, 3) := by decide +kernel
theorem dX6_spring_16 : decode cX6_spring 16 = .ok (.ireturn, 1) := by decide +kernel
theorem dX6_spring_17 : decode cX6_spring 17 = .ok (.aload_n 0, 1) := by decide +kernel
theorem dX6_spring_18 : decode cX6_spring 18 = .ok (.getfield 9, 3) := by decide +kernel
theorem dX6_spring_21 : decode cX6_spring 21 = .ok (.iconst 0, 1) := by decide +kernel
theorem dX6_spring_22 : decode cX6_spring 22 = .ok (.iaload, 1) := by decide +kernel
theorem dX6_spring_23 : decode cX6_spring 23 = .ok (.iload_n 1, 1) := by decide +kernel
theorem dX6_spring_24 : decode cX6_spring 24 = .ok (.iadd, 1) := by decide +kernel
theorem dX6_spring_25 : decode cX6_spring 25 = .ok (.ldc 141, 2) := by decide +kernel
theorem dX6_spring_27 : decode cX6_spring 27 = .ok (.if_icmp .le 10, 3) := by decide +kernel
theorem dX6_spring_30 : decode cX6_spring 30 = .ok (.aload_n 0, 1) := by decide +kernel
theorem dX6_spring_31 : decode cX6_spring 31 = .ok (.ldc 133, 2) := by decide +kernel
theorem dX6_spring_33 : decode cX6_spring 33 = .ok (.invokevirtual 69, 3) := by decide +kernel
theorem dX6_spring_36 : decode cX6_spring 36 = .ok (.ireturn, 1) := by decide +kernel
theorem dX6_spring_37 : decode cX6_spring 37 = .ok (.iconst 0, 1) := by decide +kernel
theorem dX6_spring_38 : decode cX6_spring 38 = .ok (.istore_n 2, 1) := by decide +kernel
theorem dX6_spring_39 : decode cX6_spring 39 = .ok (.iload_n 2, 1) := by decide +kernel
theorem dX6_spring_40 : decode cX6_spring 40 = .ok (.iload_n 1, 1) := by decide +kernel
theorem dX6_spring_41 : decode cX6_spring 41 = .ok (.if_icmp .ge 66, 3) := by decide +kernel
theorem dX6_spring_44 : decode cX6_spring 44 = .ok (.aload_n 0, 1) := by decide +kernel
theorem dX6_spring_45 : decode cX6_spring 45 = .ok (.invokevirtual 233, 3) := by decide +kernel
theorem dX6_spring_48 : decode cX6_spring 48 = .ok (.bipush 8, 2) := by decide +kernel
theorem dX6_spring_50 : decode cX6_spring 50 = .ok (.irem, 1) := by decide +kernel
theorem dX6_spring_51 : decode cX6_spring 51 = .ok (.istore_n 3, 1) := by decide +kernel
theorem dX6_spring_52 : decode cX6_spring 52 = .ok (.iconst 1, 1) := by decide +kernel
theorem dX6_spring_53 : decode cX6_spring 53 = .ok (.aload_n 0, 1) := by decide +kernel
theorem dX6_spring_54 : decode cX6_spring 54 = .ok (.invokevirtual 233, 3) := by decide +kernel
theorem dX6_spring_57 : decode cX6_spring 57 = .ok (.bipush 9, 2) := by decide +kernel
theorem dX6_spring_59 : decode cX6_spring 59 = .ok (.irem, 1) := by decide +kernel
theorem dX6_spring_60 : decode cX6_spring 60 = .ok (.iadd, 1) := by decide +kernel
theorem dX6_spring_61 : decode cX6_spring 61 = .ok (.istore 4, 2) := by decide +kernel
theorem dX6_spring_63 : decode cX6_spring 63 = .ok (.aload_n 0, 1) := by decide +kernel
theorem dX6_spring_64 : decode cX6_spring 64 = .ok (.iload_n 3, 1) := by decide +kernel
theorem dX6_spring_65 : decode cX6_spring 65 = .ok (.invokevirtual 116, 3) := by decide +kernel
theorem dX6_spring_68 : decode cX6_spring 68 = .ok (.ifCond .eq 29, 3) := by decide +kernel
theorem dX6_spring_71 : decode cX6_spring 71 = .ok (.aload_n 0, 1) := by decide +kernel
theorem dX6_spring_72 : decode cX6_spring 72 = .ok (.iload_n 3, 1) := by decide +kernel
theorem dX6_spring_73 : decode cX6_spring 73 = .ok (.invokevirtual 95, 3) := by decide +kernel
theorem dX6_spring_76 : decode cX6_spring 76 = .ok (.ifCond .ne 21, 3) := by decide +kernel
theorem dX6_spring_79 : decode cX6_spring 79 = .ok (.aload_n 0, 1) := by decide +kernel
theorem dX6_spring_80 : decode cX6_spring 80 = .ok (.getfield 9, 3) := by decide +kernel
theorem dX6_spring_83 : decode cX6_spring 83 = .ok (.iload_n 3, 1) := by decide +kernel
theorem dX6_spring_84 : decode cX6_spring 84 = .ok (.iconst 5, 1) := by decide +kernel
theorem dX6_spring_85 : decode cX6_spring 85 = .ok (.invokestatic 77, 3) := by decide +kernel
theorem dX6_spring_88 : decode cX6_spring 88 = .ok (.iload 4, 2) := by decide +kernel
theorem dX6_spring_90 : decode cX6_spring 90 = .ok (.iastore, 1) := by decide +kernel
theorem dX6_spring_91 : decode cX6_spring 91 = .ok (.aload_n 0, 1) := by decide +kernel
theorem dX6_spring_92 : decode cX6_spring 92 = .ok (.iload_n 3, 1) := by decide +kernel
theorem dX6_spring_93 : decode cX6_spring 93 = .ok (.invokevirtual 134, 3) := by decide +kernel
theorem dX6_spring_96 : decode cX6_spring 96 = .ok (.pop, 1) := by decide +kernel
theorem dX6_spring_97 : decode cX6_spring 97 = .ok (.aload_n 0, 1) := by decide +kernel
theorem dX6_spring_98 : decode cX6_spring 98 = .ok (.invokevirtual 160, 3) := by decide +kernel
theorem dX6_spring_101 : decode cX6_spring 101 = .ok (.iinc 2 1, 3) := by decide +kernel
theorem dX6_spring_104 : decode cX6_spring 104 = .ok (.goto (-65), 3) := by decide +kernel
theorem dX6_spring_107 : decode cX6_spring 107 = .ok (.aload_n 0, 1) := by decide +kernel
theorem dX6_spring_108 : decode cX6_spring 108 = .ok (.invokevirtual 166, 3) := by decide +kernel
theorem dX6_spring_111 : decode cX6_spring 111 = .ok (.ireturn, 1) := by decide +kernel
theorem dX6_beginDates_0 : decode cX6_beginDates 0 = .ok (.iconst 0, 1) := by decide +kernel
theorem dX6_beginDates_1 : decode cX6_beginDates 1 = .ok (.istore_n 1, 1) := by decide +kernel
theorem dX6_beginDates_2 : decode cX6_beginDates 2 = .ok (.iconst 0, 1) := by decide +kernel
theorem dX6_beginDates_3 : decode cX6_beginDates 3 = .ok (.istore_n 2, 1) := by decide +kernel
theorem dX6_beginDates_4 : decode cX6_beginDates 4 = .ok (.iload_n 2, 1) := by decide +kernel
theorem dX6_beginDates_5 : decode cX6_beginDates 5 = .ok (.bipush 60, 2) := by decide +kernel
theorem dX6_beginDates_7 : decode cX6_beginDates 7 = .ok (.if_icmp .ge 83, 3) := by decide +kernel
theorem dX6_beginDates_10 : decode cX6_beginDates 10 = .ok (.iconst 0, 1) := by decide +kernel
theorem dX6_beginDates_11 : decode cX6_beginDates 11 = .ok (.istore_n 3, 1) := by decide +kernel
theorem dX6_beginDates_12 : decode cX6_beginDates 12 = .ok (.iconst 0, 1) := by decide +kernel
theorem dX6_beginDates_13 : decode cX6_beginDates 13 = .ok (.istore 4, 2) := by decide +kernel
theorem dX6_beginDates_15 : decode cX6_beginDates 15 = .ok (.iload 4, 2) := by decide +kernel
theorem dX6_beginDates_17 : decode cX6_beginDates 17 = .ok (.aload_n 0, 1) := by decide +kernel
theorem dX6_beginDates_18 : decode cX6_beginDates 18 = .ok (.getfield 9, 3) := by decide +kernel
theorem dX6_beginDates_21 : decode cX6_beginDates 21 = .ok (.iconst 1, 1) := by decide +kernel
theorem dX6_beginDates_22 : decode cX6_beginDates 22 = .ok (.iaload, 1) := by decide +kernel
theorem dX6_beginDates_23 : decode cX6_beginDates 23 = .ok (.if_icmp .ge 49, 3) := by decide +kernel
theorem dX6_beginDates_26 : decode cX6_beginDates 26 = .ok (.iload_n 3, 1) := by decide +kernel
theorem dX6_beginDates_27 : decode cX6_beginDates 27 = .ok (.ifCond .ne 33, 3) := by decide +kernel
theorem dX6_beginDates_30 : decode cX6_beginDates 30 = .ok (.aload_n 0, 1) := by decide +kernel
theorem dX6_beginDates_31 : decode cX6_beginDates 31 = .ok (.iload 4, 2) := by decide +kernel
theorem dX6_beginDates_33 : decode cX6_beginDates 33 = .ok (.invokevirtual 95, 3) := by decide +kernel
theorem dX6_beginDates_36 : decode cX6_beginDates 36 = .ok (.ifCond .ne 28, 3) := by decide +kernel
theorem dX6_beginDates_39 : decode cX6_beginDates 39 = .ok (.aload_n 0, 1) := by decide +kernel
theorem dX6_beginDates_40 : decode cX6_beginDates 40 = .ok (.iload 4, 2) := by decide +kernel
theorem dX6_beginDates_42 : decode cX6_beginDates 42 = .ok (.iconst 2, 1) := by decide +kernel
theorem dX6_beginDates_43 : decode cX6_beginDates 43 = .ok (.invokevirtual 92, 3) := by decide +kernel
theorem dX6_beginDates_46 : decode cX6_beginDates 46 = .ok (.ifCond .ge 18, 3) := by decide +kernel
theorem dX6_beginDates_49 : decode cX6_beginDates 49 = .ok (.aload_n 0, 1) := by decide +kernel
theorem dX6_beginDates_50 : decode cX6_beginDates 50 = .ok (.iload 4, 2) := by decide +kernel
theorem dX6_beginDates_52 : decode cX6_beginDates 52 = .ok (.iconst 1, 1) := by decide +kernel
theorem dX6_beginDates_53 : decode cX6_beginDates 53 = .ok (.invokevirtual 92, 3) := by decide +kernel
theorem dX6_beginDates_56 : decode cX6_beginDates 56 = .ok (.iload_n 2, 1) := by decide +kernel
theorem dX6_beginDates_57 : decode cX6_beginDates 57 = .ok (.if_icmp .ne 7, 3) := by decide +kernel
theorem dX6_beginDates_60 : decode cX6_beginDates 60 = .ok (.iconst 1, 1) := by decide +kernel
theorem dX6_beginDates_61 : decode cX6_beginDates 61 = .ok (.goto 4, 3) := by decide +kernel
theorem dX6_beginDates_64 : decode cX6_beginDates 64 = .ok (.iconst 0, 1) := by decide +kernel
theorem dX6_beginDates_65 : decode cX6_beginDates 65 = .ok (.istore_n 3, 1) := by decide +kernel
theorem dX6_beginDates_66 : decode cX6_beginDates 66 = .ok (.iinc 4 1, 3) := by decide +kernel
theorem dX6_beginDates_69 : decode cX6_beginDates 69 = .ok (.goto (-54), 3) := by decide +kernel
theorem dX6_beginDates_72 : decode cX6_beginDates 72 = .ok (.iload_n 1, 1) := by decide +kernel
theorem dX6_beginDates_73 : decode cX6_beginDates 73 = .ok (.iload_n 3, 1) := by decide +kernel
theorem dX6_beginDates_74 : decode cX6_beginDates 74 = .ok (.ifCond .eq 7, 3) := by decide +kernel
theorem dX6_beginDates_77 : decode cX6_beginDates 77 = .ok (.iconst 1, 1) := by decide +kernel
theorem dX6_beginDates_78 : decode cX6_beginDates 78 = .ok (.goto 4, 3) := by decide +kernel
theorem dX6_beginDates_81 : decode cX6_beginDates 81 = .ok (.iconst 0, 1) := by decide +kernel
theorem dX6_beginDates_82 : decode cX6_beginDates 82 = .ok (.iadd, 1) := by decide +kernel
theorem dX6_beginDates_83 : decode cX6_beginDates 83 = .ok (.istore_n 1, 1) := by decide +kernel
theorem dX6_beginDates_84 : decode cX6_beginDates 84 = .ok (.iinc 2 1, 3) := by decide +kernel
theorem dX6_beginDates_87 : decode cX6_beginDates 87 = .ok (.goto (-83), 3) := by decide +kernel
theorem dX6_beginDates_90 : decode cX6_beginDates 90 = .ok (.iload_n 1, 1) := by decide +kernel
theorem dX6_beginDates_91 : decode cX6_beginDates 91 = .ok (.ireturn, 1) := by decide +kernel
theorem dX6_odds_0 : decode cX6_odds 0 = .ok (.iload_n 1, 1) := by decide +kernel
theorem dX6_odds_1 : decode cX6_odds 1 = .ok (.iconst 0, 1) := by decide +kernel
theorem dX6_odds_2 : decode cX6_odds 2 = .ok (.bipush 10, 2) := by decide +kernel
theorem dX6_odds_4 : decode cX6_odds 4 = .ok (.invokestatic 73, 3) := by decide +kernel
theorem dX6_odds_7 : decode cX6_odds 7 = .ok (.ifCond .eq 12, 3) := by decide +kernel
theorem dX6_odds_10 : decode cX6_odds 10 = .ok (.iload_n 2, 1) := by decide +kernel
theorem dX6_odds_11 : decode cX6_odds 11 = .ok (.iconst 0, 1) := by decide +kernel
theorem dX6_odds_12 : decode cX6_odds 12 = .ok (.iconst 1, 1) := by decide +kernel
theorem dX6_odds_13 : decode cX6_odds 13 = .ok (.invokestatic 73, 3) := by decide +kernel
theorem dX6_odds_16 : decode cX6_odds 16 = .ok (.ifCond .ne 11, 3) := by decide +kernel
theorem dX6_odds_19 : decode cX6_odds 19 = .ok (.aload_n 0, 1) := by decide +kernel
theorem dX6_odds_20 : decode cX6_odds 20 = .ok (.ldc 63, 2) := by decide +kernel
theorem dX6_odds_22 : decode cX6_odds 22 = .ok (.invokevirtual 69, 3) := by decide +kernel
theorem dX6_odds_25 : decode cX6_odds 25 = .ok (.i2l, 1) := by decide +kernel
theorem dX6_odds_26 : decode cX6_odds 26 = .ok (.lreturn, 1) := by decide +kernel
theorem dX6_odds_27 : decode cX6_odds 27 = .ok (.aload_n 0, 1) := by decide +kernel
theorem dX6_odds_28 : decode cX6_odds 28 = .ok (.invokevirtual 236, 3) := by decide +kernel
theorem dX6_odds_31 : decode cX6_odds 31 = .ok (.istore_n 3, 1) := by decide +kernel
theorem dX6_odds_32 : decode cX6_odds 32 = .ok (.bipush 60, 2) := by decide +kernel
theorem dX6_odds_34 : decode cX6_odds 34 = .ok (.istore 4, 2) := by decide +kernel
theorem dX6_odds_36 : decode cX6_odds 36 = .ok (.iload_n 3, 1) := by decide +kernel
theorem dX6_odds_37 : decode cX6_odds 37 = .ok (.istore 5, 2) := by decide +kernel
theorem dX6_odds_39 : decode cX6_odds 39 = .ok (.iload 5, 2) := by decide +kernel
theorem dX6_odds_41 : decode cX6_odds 41 = .ok (.ifCond .eq 21, 3) := by decide +kernel
theorem dX6_odds_44 : decode cX6_odds 44 = .ok (.iload 4, 2) := by decide +kernel
theorem dX6_odds_46 : decode cX6_odds 46 = .ok (.iload 5, 2) := by decide +kernel
theorem dX6_odds_48 : decode cX6_odds 48 = .ok (.irem, 1) := by decide +kernel
theorem dX6_odds_49 : decode cX6_odds 49 = .ok (.istore 6, 2) := by decide +kernel
theorem dX6_odds_51 : decode cX6_odds 51 = .ok (.iload 5, 2) := by decide +kernel
theorem dX6_odds_53 : decode cX6_odds 53 = .ok (.istore 4, 2) := by decide +kernel
theorem dX6_odds_55 : decode cX6_odds 55 = .ok (.iload 6, 2) := by decide +kernel
theorem dX6_odds_57 : decode cX6_odds 57 = .ok (.istore 5, 2) := by decide +kernel
theorem dX6_odds_59 : decode cX6_odds 59 = .ok (.goto (-20), 3) := by decide +kernel
theorem dX6_odds_62 : decode cX6_odds 62 = .ok (.lconst 1, 1) := by decide +kernel
theorem dX6_odds_63 : decode cX6_odds 63 = .ok (.lstore 6, 2) := by decide +kernel
theorem dX6_odds_65 : decode cX6_odds 65 = .ok (.iconst 0, 1) := by decide +kernel
theorem dX6_odds_66 : decode cX6_odds 66 = .ok (.istore 8, 2) := by decide +kernel
theorem dX6_odds_68 : decode cX6_odds 68 = .ok (.iload 8, 2) := by decide +kernel
theorem dX6_odds_70 : decode cX6_odds 70 = .ok (.iload_n 1, 1) := by decide +kernel
theorem dX6_odds_71 : decode cX6_odds 71 = .ok (.if_icmp .ge 28, 3) := by decide +kernel
theorem dX6_odds_74 : decode cX6_odds 74 = .ok (.lload 6, 2) := by decide +kernel
theorem dX6_odds_76 : decode cX6_odds 76 = .ok (.iload_n 2, 1) := by decide +kernel
theorem dX6_odds_77 : decode cX6_odds 77 = .ok (.ifCond .ne 7, 3) := by decide +kernel
theorem dX6_odds_80 : decode cX6_odds 80 = .ok (.iload_n 3, 1) := by decide +kernel
theorem dX6_odds_81 : decode cX6_odds 81 = .ok (.goto 5, 3) := by decide +kernel
theorem dX6_odds_84 : decode cX6_odds 84 = .ok (.bipush 60, 2) := by decide +kernel
theorem dX6_odds_86 : decode cX6_odds 86 = .ok (.iload 4, 2) := by decide +kernel
theorem dX6_odds_88 : decode cX6_odds 88 = .ok (.idiv, 1) := by decide +kernel
theorem dX6_odds_89 : decode cX6_odds 89 = .ok (.i2l, 1) := by decide +kernel
theorem dX6_odds_90 : decode cX6_odds 90 = .ok (.lmul, 1) := by decide +kernel
theorem dX6_odds_91 : decode cX6_odds 91 = .ok (.lstore 6, 2) := by decide +kernel
theorem dX6_odds_93 : decode cX6_odds 93 = .ok (.iinc 8 1, 3) := by decide +kernel
theorem dX6_odds_96 : decode cX6_odds 96 = .ok (.goto (-28), 3) := by decide +kernel
theorem dX6_odds_99 : decode cX6_odds 99 = .ok (.lload 6, 2) := by decide +kernel
theorem dX6_odds_101 : decode cX6_odds 101 = .ok (.lreturn, 1) := by decide +kernel
theorem dX6_seed_0 : decode cX6_seed 0 = .ok (.aload_n 0, 1) := by decide +kernel
theorem dX6_seed_1 : decode cX6_seed 1 = .ok (.iconst 2, 1) := by decide +kernel
theorem dX6_seed_2 : decode cX6_seed 2 = .ok (.iload_n 1, 1) := by decide +kernel
theorem dX6_seed_3 : decode cX6_seed 3 = .ok (.invokevirtual 125, 3) := by decide +kernel
theorem dX6_seed_6 : decode cX6_seed 6 = .ok (.ireturn, 1) := by decide +kernel
theorem dX6_feed_0 : decode cX6_feed 0 = .ok (.iload_n 2, 1) := by decide +kernel
theorem dX6_feed_1 : decode cX6_feed 1 = .ok (.iconst 1, 1) := by decide +kernel
theorem dX6_feed_2 : decode cX6_feed 2 = .ok (.iconst 4, 1) := by decide +kernel
theorem dX6_feed_3 : decode cX6_feed 3 = .ok (.invokestatic 73, 3) := by decide +kernel
theorem dX6_feed_6 : decode cX6_feed 6 = .ok (.ifCond .ne 10, 3) := by decide +kernel
theorem dX6_feed_9 : decode cX6_feed 9 = .ok (.aload_n 0, 1) := by decide +kernel
theorem dX6_feed_10 : decode cX6_feed 10 = .ok (.ldc 63, 2) := by decide +kernel
theorem dX6_feed_12 : decode cX6_feed 12 = .ok (.invokevirtual 69, 3) := by decide +kernel
theorem dX6_feed_15 : decode cX6_feed 15 = .ok (.ireturn, 1) := by decide +kernel
theorem dX6_feed_16 : decode cX6_feed 16 = .ok (.aload_n 0, 1) := by decide +kernel
theorem dX6_feed_17 : decode cX6_feed 17 = .ok (.getfield 239, 3) := by decide +kernel
theorem dX6_feed_20 : decode cX6_feed 20 = .ok (.iload_n 2, 1) := by decide +kernel
theorem dX6_feed_21 : decode cX6_feed 21 = .ok (.iadd, 1) := by decide +kernel
theorem dX6_feed_22 : decode cX6_feed 22 = .ok (.bipush 120, 2) := by decide +kernel
theorem dX6_feed_24 : decode cX6_feed 24 = .ok (.if_icmp .le 10, 3) := by decide +kernel
theorem dX6_feed_27 : decode cX6_feed 27 = .ok (.aload_n 0, 1) := by decide +kernel
theorem dX6_feed_28 : decode cX6_feed 28 = .ok (.ldc 88, 2) := by decide +kernel
theorem dX6_feed_30 : decode cX6_feed 30 = .ok (.invokevirtual 69, 3) := by decide +kernel
theorem dX6_feed_33 : decode cX6_feed 33 = .ok (.ireturn, 1) := by decide +kernel
theorem dX6_feed_34 : decode cX6_feed 34 = .ok (.iload_n 2, 1) := by decide +kernel
theorem dX6_feed_35 : decode cX6_feed 35 = .ok (.iconst 1, 1) := by decide +kernel
theorem dX6_feed_36 : decode cX6_feed 36 = .ok (.isub, 1) := by decide +kernel
theorem dX6_feed_37 : decode cX6_feed 37 = .ok (.istore_n 3, 1) := by decide +kernel
theorem dX6_feed_38 : decode cX6_feed 38 = .ok (.iload_n 3, 1) := by decide +kernel
theorem dX6_feed_39 : decode cX6_feed 39 = .ok (.ifCond .lt 38, 3) := by decide +kernel
theorem dX6_feed_42 : decode cX6_feed 42 = .ok (.aload_n 0, 1) := by decide +kernel
theorem dX6_feed_43 : decode cX6_feed 43 = .ok (.getfield 25, 3) := by decide +kernel
theorem dX6_feed_46 : decode cX6_feed 46 = .ok (.aload_n 0, 1) := by decide +kernel
theorem dX6_feed_47 : decode cX6_feed 47 = .ok (.getfield 239, 3) := by decide +kernel
theorem dX6_feed_50 : decode cX6_feed 50 = .ok (.iload_n 1, 1) := by decide +kernel
theorem dX6_feed_51 : decode cX6_feed 51 = .ok (.bipush 8, 2) := by decide +kernel
theorem dX6_feed_53 : decode cX6_feed 53 = .ok (.iload_n 3, 1) := by decide +kernel
theorem dX6_feed_54 : decode cX6_feed 54 = .ok (.imul, 1) := by decide +kernel
theorem dX6_feed_55 : decode cX6_feed 55 = .ok (.ishr, 1) := by decide +kernel
theorem dX6_feed_56 : decode cX6_feed 56 = .ok (.sipush 255, 3) := by decide +kernel
theorem dX6_feed_59 : decode cX6_feed 59 = .ok (.iand, 1) := by decide +kernel
theorem dX6_feed_60 : decode cX6_feed 60 = .ok (.iastore, 1) := by decide +kernel
theorem dX6_feed_61 : decode cX6_feed 61 = .ok (.aload_n 0, 1) := by decide +kernel
theorem dX6_feed_62 : decode cX6_feed 62 = .ok (.dup, 1) := by decide +kernel
theorem dX6_feed_63 : decode cX6_feed 63 = .ok (.getfield 239, 3) := by decide +kernel
theorem dX6_feed_66 : decode cX6_feed 66 = .ok (.iconst 1, 1) := by decide +kernel
theorem dX6_feed_67 : decode cX6_feed 67 = .ok (.iadd, 1) := by decide +kernel
theorem dX6_feed_68 : decode cX6_feed 68 = .ok (.putfield 239, 3) := by decide +kernel
theorem dX6_feed_71 : decode cX6_feed 71 = .ok (.iinc 3 (-1), 3) := by decide +kernel
theorem dX6_feed_74 : decode cX6_feed 74 = .ok (.goto (-36), 3) := by decide +kernel
theorem dX6_feed_77 : decode cX6_feed 77 = .ok (.aload_n 0, 1) := by decide +kernel
theorem dX6_feed_78 : decode cX6_feed 78 = .ok (.getfield 239, 3) := by decide +kernel
theorem dX6_feed_81 : decode cX6_feed 81 = .ok (.ireturn, 1) := by decide +kernel
theorem dX6_wipe_0 : decode cX6_wipe 0 = .ok (.aload_n 0, 1) := by decide +kernel
theorem dX6_wipe_1 : decode cX6_wipe 1 = .ok (.getfield 239, 3) := by decide +kernel
theorem dX6_wipe_4 : decode cX6_wipe 4 = .ok (.istore_n 1, 1) := by decide +kernel
theorem dX6_wipe_5 : decode cX6_wipe 5 = .ok (.aload_n 0, 1) := by decide +kernel
theorem dX6_wipe_6 : decode cX6_wipe 6 = .ok (.iconst 0, 1) := by decide +kernel
theorem dX6_wipe_7 : decode cX6_wipe 7 = .ok (.putfield 239, 3) := by decide +kernel
theorem dX6_wipe_10 : decode cX6_wipe 10 = .ok (.iload_n 1, 1) := by decide +kernel
theorem dX6_wipe_11 : decode cX6_wipe 11 = .ok (.ireturn, 1) := by decide +kernel
theorem dX6_byteAt_0 : decode cX6_byteAt 0 = .ok (.iload_n 1, 1) := by decide +kernel
theorem dX6_byteAt_1 : decode cX6_byteAt 1 = .ok (.aload_n 0, 1) := by decide +kernel
theorem dX6_byteAt_2 : decode cX6_byteAt 2 = .ok (.getfield 239, 3) := by decide +kernel
theorem dX6_byteAt_5 : decode cX6_byteAt 5 = .ok (.if_icmp .ge 12, 3) := by decide +kernel
theorem dX6_byteAt_8 : decode cX6_byteAt 8 = .ok (.aload_n 0, 1) := by decide +kernel
theorem dX6_byteAt_9 : decode cX6_byteAt 9 = .ok (.getfield 25, 3) := by decide +kernel
theorem dX6_byteAt_12 : decode cX6_byteAt 12 = .ok (.iload_n 1, 1) := by decide +kernel
theorem dX6_byteAt_13 : decode cX6_byteAt 13 = .ok (.iaload, 1) := by decide +kernel
theorem dX6_byteAt_14 : decode cX6_byteAt 14 = .ok (.goto 4, 3) := by decide +kernel
theorem dX6_byteAt_17 : decode cX6_byteAt 17 = .ok (.iconst (-1), 1) := by decide +kernel
theorem dX6_byteAt_18 : decode cX6_byteAt 18 = .ok (.ireturn, 1) := by decide +kernel
theorem dX6_token_0 : decode cX6_token 0 = .ok (.aload_n 0, 1) := by decide +kernel
theorem dX6_token_1 : decode cX6_token 1 = .ok (.aload_n 0, 1) := by decide +kernel
theorem dX6_token_2 : decode cX6_token 2 = .ok (.getfield 242, 3) := by decide +kernel
theorem dX6_token_5 : decode cX6_token 5 = .ok (.putfield 245, 3) := by decide +kernel
theorem dX6_token_8 : decode cX6_token 8 = .ok (.aload_n 0, 1) := by decide +kernel
theorem dX6_token_9 : decode cX6_token 9 = .ok (.aload_n 0, 1) := by decide +kernel
theorem dX6_token_10 : decode cX6_token 10 = .ok (.getfield 245, 3) := by decide +kernel
theorem dX6_token_13 : decode cX6_token 13 = .ok (.invokevirtual 247, 3) := by decide +kernel
theorem dX6_token_16 : decode cX6_token 16 = .ok (.bipush 32, 2) := by decide +kernel
theorem dX6_token_18 : decode cX6_token 18 = .ok (.if_icmp .ne 16, 3) := by decide +kernel
theorem dX6_token_21 : decode cX6_token 21 = .ok (.aload_n 0, 1) := by decide +kernel
theorem dX6_token_22 : decode cX6_token 22 = .ok (.dup, 1) := by decide +kernel
theorem dX6_token_23 : decode cX6_token 23 = .ok (.getfield 245, 3) := by decide +kernel
theorem dX6_token_26 : decode cX6_token 26 = .ok (.iconst 1, 1) := by decide +kernel
theorem dX6_token_27 : decode cX6_token 27 = .ok (.iadd, 1) := by decide +kernel
theorem dX6_token_28 : decode cX6_token 28 = .ok (.putfield 245, 3) := by decide +kernel
theorem dX6_token_31 : decode cX6_token 31 = .ok (.goto (-23), 3) := by decide +kernel
theorem dX6_token_34 : decode cX6_token 34 = .ok (.aload_n 0, 1) := by decide +kernel
theorem dX6_token_35 : decode cX6_token 35 = .ok (.aload_n 0, 1) := by decide +kernel
theorem dX6_token_36 : decode cX6_token 36 = .ok (.getfield 245, 3) := by decide +kernel
theorem dX6_token_39 : decode cX6_token 39 = .ok (.invokevirtual 247, 3) := by decide +kernel
theorem dX6_token_42 : decode cX6_token 42 = .ok (.istore_n 1, 1) := by decide +kernel
theorem dX6_token_43 : decode cX6_token 43 = .ok (.aload_n 0, 1) := by decide +kernel
theorem dX6_token_44 : decode cX6_token 44 = .ok (.aload_n 0, 1) := by decide +kernel
theorem dX6_token_45 : decode cX6_token 45 = .ok (.getfield 245, 3) := by decide +kernel
theorem dX6_token_48 : decode cX6_token 48 = .ok (.putfield 242, 3) := by decide +kernel
theorem dX6_token_51 : decode cX6_token 51 = .ok (.aload_n 0, 1) := by decide +kernel
theorem dX6_token_52 : decode cX6_token 52 = .ok (.iconst 0, 1) := by decide +kernel
theorem dX6_token_53 : decode cX6_token 53 = .ok (.putfield 250, 3) := by decide +kernel
theorem dX6_token_56 : decode cX6_token 56 = .ok (.iload_n 1, 1) := by decide +kernel
theorem dX6_token_57 : decode cX6_token 57 = .ok (.ifCond .ge 11, 3) := by decide +kernel
theorem dX6_token_60 : decode cX6_token 60 = .ok (.aload_n 0, 1) := by decide +kernel
theorem dX6_token_61 : decode cX6_token 61 = .ok (.iconst 0, 1) := by decide +kernel
theorem dX6_token_62 : decode cX6_token 62 = .ok (.putfield 253, 3) := by decide +kernel
theorem dX6_token_65 : decode cX6_token 65 = .ok (.goto 141, 3) := by decide +kernel
theorem dX6_token_68 : decode cX6_token 68 = .ok (.iload_n 1, 1) := by decide +kernel
theorem dX6_token_69 : decode cX6_token 69 = .ok (.bipush 97, 2) := by decide +kernel
theorem dX6_token_71 : decode cX6_token 71 = .ok (.bipush 122, 2) := by decide +kernel
theorem dX6_token_73 : decode cX6_token 73 = .ok (.invokestatic 73, 3) := by decide +kernel
theorem dX6_token_76 : decode cX6_token 76 = .ok (.ifCond .eq 39, 3) := by decide +kernel
theorem dX6_token_79 : decode cX6_token 79 = .ok (.aload_n 0, 1) := by decide +kernel
theorem dX6_token_80 : decode cX6_token 80 = .ok (.iconst 1, 1) := by decide +kernel
theorem dX6_token_81 : decode cX6_token 81 = .ok (.putfield 253, 3) := by decide +kernel
theorem dX6_token_84 : decode cX6_token 84 = .ok (.aload_n 0, 1) := by decide +kernel
theorem dX6_token_85 : decode cX6_token 85 = .ok (.aload_n 0, 1) := by decide +kernel
theorem dX6_token_86 : decode cX6_token 86 = .ok (.getfield 242, 3) := by decide +kernel
theorem dX6_token_89 : decode cX6_token 89 = .ok (.invokevirtual 247, 3) := by decide +kernel
theorem dX6_token_92 : decode cX6_token 92 = .ok (.bipush 97, 2) := by decide +kernel
theorem dX6_token_94 : decode cX6_token 94 = .ok (.bipush 122, 2) := by decide +kernel
theorem dX6_token_96 : decode cX6_token 96 = .ok (.invokestatic 73, 3) := by decide +kernel
theorem dX6_token_99 : decode cX6_token 99 = .ok (.ifCond .eq 107, 3) := by decide +kernel
theorem dX6_token_102 : decode cX6_token 102 = .ok (.aload_n 0, 1) := by decide +kernel
theorem dX6_token_103 : decode cX6_token 103 = .ok (.dup, 1) := by decide +kernel
theorem dX6_token_104 : decode cX6_token 104 = .ok (.getfield 242, 3) := by decide +kernel
theorem dX6_token_107 : decode cX6_token 107 = .ok (.iconst 1, 1) := by decide +kernel
theorem dX6_token_108 : decode cX6_token 108 = .ok (.iadd, 1) := by decide +kernel
theorem dX6_token_109 : decode cX6_token 109 = .ok (.putfield 242, 3) := by decide +kernel
theorem dX6_token_112 : decode cX6_token 112 = .ok (.goto (-28), 3) := by decide +kernel
theorem dX6_token_115 : decode cX6_token 115 = .ok (.iload_n 1, 1) := by decide +kernel
theorem dX6_token_116 : decode cX6_token 116 = .ok (.bipush 48, 2) := by decide +kernel
theorem dX6_token_118 : decode cX6_token 118 = .ok (.bipush 57, 2) := by decide +kernel
theorem dX6_token_120 : decode cX6_token 120 = .ok (.invokestatic 73, 3) := by decide +kernel
theorem dX6_token_123 : decode cX6_token 123 = .ok (.ifCond .eq 68, 3) := by decide +kernel
theorem dX6_token_126 : decode cX6_token 126 = .ok (.aload_n 0, 1) := by decide +kernel
theorem dX6_token_127 : decode cX6_token 127 = .ok (.iconst 2, 1) := by decide +kernel
theorem dX6_token_128 : decode cX6_token 128 = .ok (.putfield 253, 3) := by decide +kernel
theorem dX6_token_131 : decode cX6_token 131 = .ok (.aload_n 0, 1) := by decide +kernel
theorem dX6_token_132 : decode cX6_token 132 = .ok (.aload_n 0, 1) := by decide +kernel
theorem dX6_token_133 : decode cX6_token 133 = .ok (.getfield 242, 3) := by decide +kernel
theorem dX6_token_136 : decode cX6_token 136 = .ok (.invokevirtual 247, 3) := by decide +kernel
theorem dX6_token_139 : decode cX6_token 139 = .ok (.bipush 48, 2) := by decide +kernel
theorem dX6_token_141 : decode cX6_token 141 = .ok (.bipush 57, 2) := by decide +kernel
theorem dX6_token_143 : decode cX6_token 143 = .ok (.invokestatic 73, 3) := by decide +kernel
theorem dX6_token_146 : decode cX6_token 146 = .ok (.ifCond .eq 60, 3) := by decide +kernel
theorem dX6_token_149 : decode cX6_token 149 = .ok (.aload_n 0, 1) := by decide +kernel
theorem dX6_token_150 : decode cX6_token 150 = .ok (.sipush 1000, 3) := by decide +kernel
theorem dX6_token_153 : decode cX6_token 153 = .ok (.bipush 10, 2) := by decide +kernel
theorem dX6_token_155 : decode cX6_token 155 = .ok (.aload_n 0, 1) := by decide +kernel
theorem dX6_token_156 : decode cX6_token 156 = .ok (.getfield 250, 3) := by decide +kernel
theorem dX6_token_159 : decode cX6_token 159 = .ok (.imul, 1) := by decide +kernel
theorem dX6_token_160 : decode cX6_token 160 = .ok (.aload_n 0, 1) := by decide +kernel
theorem dX6_token_161 : decode cX6_token 161 = .ok (.aload_n 0, 1) := by decide +kernel
theorem dX6_token_162 : decode cX6_token 162 = .ok (.getfield 242, 3) := by decide +kernel
theorem dX6_token_165 : decode cX6_token 165 = .ok (.invokevirtual 247, 3) := by decide +kernel
theorem dX6_token_168 : decode cX6_token 168 = .ok (.iadd, 1) := by decide +kernel
theorem dX6_token_169 : decode cX6_token 169 = .ok (.bipush 48, 2) := by decide +kernel
theorem dX6_token_171 : decode cX6_token 171 = .ok (.isub, 1) := by decide +kernel
theorem dX6_token_172 : decode cX6_token 172 = .ok (.invokestatic 128, 3) := by decide +kernel
theorem dX6_token_175 : decode cX6_token 175 = .ok (.putfield 250, 3) := by decide +kernel
theorem dX6_token_178 : decode cX6_token 178 = .ok (.aload_n 0, 1) := by decide +kernel
theorem dX6_token_179 : decode cX6_token 179 = .ok (.dup, 1) := by decide +kernel
theorem dX6_token_180 : decode cX6_token 180 = .ok (.getfield 242, 3) := by decide +kernel
theorem dX6_token_183 : decode cX6_token 183 = .ok (.iconst 1, 1) := by decide +kernel
theorem dX6_token_184 : decode cX6_token 184 = .ok (.iadd, 1) := by decide +kernel
theorem dX6_token_185 : decode cX6_token 185 = .ok (.putfield 242, 3) := by decide +kernel
theorem dX6_token_188 : decode cX6_token 188 = .ok (.goto (-57), 3) := by decide +kernel
theorem dX6_token_191 : decode cX6_token 191 = .ok (.aload_n 0, 1) := by decide +kernel
theorem dX6_token_192 : decode cX6_token 192 = .ok (.iconst 3, 1) := by decide +kernel
theorem dX6_token_193 : decode cX6_token 193 = .ok (.putfield 253, 3) := by decide +kernel
theorem dX6_token_196 : decode cX6_token 196 = .ok (.aload_n 0, 1) := by decide +kernel
theorem dX6_token_197 : decode cX6_token 197 = .ok (.dup, 1) := by decide +kernel
theorem dX6_token_198 : decode cX6_token 198 = .ok (.getfield 242, 3) := by decide +kernel
theorem dX6_token_201 : decode cX6_token 201 = .ok (.iconst 1, 1) := by decide +kernel
theorem dX6_token_202 : decode cX6_token 202 = .ok (.iadd, 1) := by decide +kernel
theorem dX6_token_203 : decode cX6_token 203 = .ok (.putfield 242, 3) := by decide +kernel
theorem dX6_token_206 : decode cX6_token 206 = .ok (.return_, 1) := by decide +kernel
theorem dX6_isWord_0 : decode cX6_isWord 0 = .ok (.aload_n 0, 1) := by decide +kernel
theorem dX6_isWord_1 : decode cX6_isWord 1 = .ok (.getfield 253, 3) := by decide +kernel
theorem dX6_isWord_4 : decode cX6_isWord 4 = .ok (.iconst 1, 1) := by decide +kernel
theorem dX6_isWord_5 : decode cX6_isWord 5 = .ok (.if_icmp .ne 23, 3) := by decide +kernel
theorem dX6_isWord_8 : decode cX6_isWord 8 = .ok (.aload_n 0, 1) := by decide +kernel
theorem dX6_isWord_9 : decode cX6_isWord 9 = .ok (.getfield 242, 3) := by decide +kernel
theorem dX6_isWord_12 : decode cX6_isWord 12 = .ok (.aload_n 0, 1) := by decide +kernel
theorem dX6_isWord_13 : decode cX6_isWord 13 = .ok (.getfield 245, 3) := by decide +kernel
theorem dX6_isWord_16 : decode cX6_isWord 16 = .ok (.isub, 1) := by decide +kernel
theorem dX6_isWord_17 : decode cX6_isWord 17 = .ok (.aload_n 1, 1) := by decide +kernel
theorem dX6_isWord_18 : decode cX6_isWord 18 = .ok (.invokevirtual 256, 3) := by decide +kernel
theorem dX6_isWord_21 : decode cX6_isWord 21 = .ok (.if_icmp .ne 7, 3) := by decide +kernel
theorem dX6_isWord_24 : decode cX6_isWord 24 = .ok (.iconst 1, 1) := by decide +kernel
theorem dX6_isWord_25 : decode cX6_isWord 25 = .ok (.goto 4, 3) := by decide +kernel
theorem dX6_isWord_28 : decode cX6_isWord 28 = .ok (.iconst 0, 1) := by decide +kernel
theorem dX6_isWord_29 : decode cX6_isWord 29 = .ok (.istore_n 2, 1) := by decide +kernel
theorem dX6_isWord_30 : decode cX6_isWord 30 = .ok (.iconst 0, 1) := by decide +kernel
theorem dX6_isWord_31 : decode cX6_isWord 31 = .ok (.istore_n 3, 1) := by decide +kernel
theorem dX6_isWord_32 : decode cX6_isWord 32 = .ok (.iload_n 3, 1) := by decide +kernel
theorem dX6_isWord_33 : decode cX6_isWord 33 = .ok (.aload_n 1, 1) := by decide +kernel
theorem dX6_isWord_34 : decode cX6_isWord 34 = .ok (.invokevirtual 256, 3) := by decide +kernel
theorem dX6_isWord_37 : decode cX6_isWord 37 = .ok (.if_icmp .ge 38, 3) := by decide +kernel
theorem dX6_isWord_40 : decode cX6_isWord 40 = .ok (.iload_n 2, 1) := by decide +kernel
theorem dX6_isWord_41 : decode cX6_isWord 41 = .ok (.ifCond .eq 34, 3) := by decide +kernel
theorem dX6_isWord_44 : decode cX6_isWord 44 = .ok (.aload_n 0, 1) := by decide +kernel
theorem dX6_isWord_45 : decode cX6_isWord 45 = .ok (.getfield 25, 3) := by decide +kernel
theorem dX6_isWord_48 : decode cX6_isWord 48 = .ok (.aload_n 0, 1) := by decide +kernel
theorem dX6_isWord_49 : decode cX6_isWord 49 = .ok (.getfield 245, 3) := by decide +kernel
theorem dX6_isWord_52 : decode cX6_isWord 52 = .ok (.iload_n 3, 1) := by decide +kernel
theorem dX6_isWord_53 : decode cX6_isWord 53 = .ok (.iadd, 1) := by decide +kernel
theorem dX6_isWord_54 : decode cX6_isWord 54 = .ok (.iaload, 1) := by decide +kernel
theorem dX6_isWord_55 : decode cX6_isWord 55 = .ok (.aload_n 1, 1) := by decide +kernel
theorem dX6_isWord_56 : decode cX6_isWord 56 = .ok (.iload_n 3, 1) := by decide +kernel
theorem dX6_isWord_57 : decode cX6_isWord 57 = .ok (.invokevirtual 259, 3) := by decide +kernel
theorem dX6_isWord_60 : decode cX6_isWord 60 = .ok (.if_icmp .ne 7, 3) := by decide +kernel
theorem dX6_isWord_63 : decode cX6_isWord 63 = .ok (.iconst 1, 1) := by decide +kernel
theorem dX6_isWord_64 : decode cX6_isWord 64 = .ok (.goto 4, 3) := by decide +kernel
theorem dX6_isWord_67 : decode cX6_isWord 67 = .ok (.iconst 0, 1) := by decide +kernel
theorem dX6_isWord_68 : decode cX6_isWord 68 = .ok (.istore_n 2, 1) := by decide +kernel
theorem dX6_isWord_69 : decode cX6_isWord 69 = .ok (.iinc 3 1, 3) := by decide +kernel
theorem dX6_isWord_72 : decode cX6_isWord 72 = .ok (.goto (-40), 3) := by decide +kernel
theorem dX6_isWord_75 : decode cX6_isWord 75 = .ok (.iload_n 2, 1) := by decide +kernel
theorem dX6_isWord_76 : decode cX6_isWord 76 = .ok (.ireturn, 1) := by decide +kernel
theorem dX6_must_0 : decode cX6_must 0 = .ok (.aload_n 0, 1) := by decide +kernel
theorem dX6_must_1 : decode cX6_must 1 = .ok (.aload_n 0, 1) := by decide +kernel
theorem dX6_must_2 : decode cX6_must 2 = .ok (.getfield 263, 3) := by decide +kernel
theorem dX6_must_5 : decode cX6_must 5 = .ok (.ifCond .ne 7, 3) := by decide +kernel
theorem dX6_must_8 : decode cX6_must 8 = .ok (.iload_n 1, 1) := by decide +kernel
theorem dX6_must_9 : decode cX6_must 9 = .ok (.ifCond .ne 7, 3) := by decide +kernel
theorem dX6_must_12 : decode cX6_must 12 = .ok (.iconst 1, 1) := by decide +kernel
theorem dX6_must_13 : decode cX6_must 13 = .ok (.goto 4, 3) := by decide +kernel
theorem dX6_must_16 : decode cX6_must 16 = .ok (.iconst 0, 1) := by decide +kernel
theorem dX6_must_17 : decode cX6_must 17 = .ok (.putfield 263, 3) := by decide +kernel
theorem dX6_must_20 : decode cX6_must 20 = .ok (.aload_n 0, 1) := by decide +kernel
theorem dX6_must_21 : decode cX6_must 21 = .ok (.getfield 263, 3) := by decide +kernel
theorem dX6_must_24 : decode cX6_must 24 = .ok (.ifCond .ne 7, 3) := by decide +kernel
theorem dX6_must_27 : decode cX6_must 27 = .ok (.aload_n 0, 1) := by decide +kernel
theorem dX6_must_28 : decode cX6_must 28 = .ok (.invokevirtual 267, 3) := by decide +kernel
theorem dX6_must_31 : decode cX6_must 31 = .ok (.return_, 1) := by decide +kernel
theorem dX6_number_0 : decode cX6_number 0 = .ok (.aload_n 0, 1) := by decide +kernel
theorem dX6_number_1 : decode cX6_number 1 = .ok (.getfield 250, 3) := by decide +kernel
theorem dX6_number_4 : decode cX6_number 4 = .ok (.istore_n 3, 1) := by decide +kernel
theorem dX6_number_5 : decode cX6_number 5 = .ok (.aload_n 0, 1) := by decide +kernel
theorem dX6_number_6 : decode cX6_number 6 = .ok (.aload_n 0, 1) := by decide +kernel
theorem dX6_number_7 : decode cX6_number 7 = .ok (.getfield 253, 3) := by decide +kernel
theorem dX6_number_10 : decode cX6_number 10 = .ok (.iconst 2, 1) := by decide +kernel
theorem dX6_number_11 : decode cX6_number 11 = .ok (.if_icmp .ne 16, 3) := by decide +kernel
theorem dX6_number_14 : decode cX6_number 14 = .ok (.iload_n 3, 1) := by decide +kernel
theorem dX6_number_15 : decode cX6_number 15 = .ok (.iload_n 1, 1) := by decide +kernel
theorem dX6_number_16 : decode cX6_number 16 = .ok (.iload_n 2, 1) := by decide +kernel
theorem dX6_number_17 : decode cX6_number 17 = .ok (.invokestatic 73, 3) := by decide +kernel
theorem dX6_number_20 : decode cX6_number 20 = .ok (.ifCond .eq 7, 3) := by decide +kernel
theorem dX6_number_23 : decode cX6_number 23 = .ok (.iconst 1, 1) := by decide +kernel
theorem dX6_number_24 : decode cX6_number 24 = .ok (.goto 4, 3) := by decide +kernel
theorem dX6_number_27 : decode cX6_number 27 = .ok (.iconst 0, 1) := by decide +kernel
theorem dX6_number_28 : decode cX6_number 28 = .ok (.invokevirtual 270, 3) := by decide +kernel
theorem dX6_number_31 : decode cX6_number 31 = .ok (.iload_n 3, 1) := by decide +kernel
theorem dX6_number_32 : decode cX6_number 32 = .ok (.ireturn, 1) := by decide +kernel
theorem dX6_addItem_0 : decode cX6_addItem 0 = .ok (.bipush 6, 2) := by decide +kernel
theorem dX6_addItem_2 : decode cX6_addItem 2 = .ok (.aload_n 0, 1) := by decide +kernel
theorem dX6_addItem_3 : decode cX6_addItem 3 = .ok (.getfield 274, 3) := by decide +kernel
theorem dX6_addItem_6 : decode cX6_addItem 6 = .ok (.imul, 1) := by decide +kernel
theorem dX6_addItem_7 : decode cX6_addItem 7 = .ok (.istore 7, 2) := by decide +kernel
theorem dX6_addItem_9 : decode cX6_addItem 9 = .ok (.aload_n 0, 1) := by decide +kernel
theorem dX6_addItem_10 : decode cX6_addItem 10 = .ok (.getfield 48, 3) := by decide +kernel
theorem dX6_addItem_13 : decode cX6_addItem 13 = .ok (.iload 7, 2) := by decide +kernel
theorem dX6_addItem_15 : decode cX6_addItem 15 = .ok (.iload_n 1, 1) := by decide +kernel
theorem dX6_addItem_16 : decode cX6_addItem 16 = .ok (.iastore, 1) := by decide +kernel
theorem dX6_addItem_17 : decode cX6_addItem 17 = .ok (.aload_n 0, 1) := by decide +kernel
theorem dX6_addItem_18 : decode cX6_addItem 18 = .ok (.getfield 48, 3) := by decide +kernel
theorem dX6_addItem_21 : decode cX6_addItem 21 = .ok (.iload 7, 2) := by decide +kernel
theorem dX6_addItem_23 : decode cX6_addItem 23 = .ok (.iconst 1, 1) := by decide +kernel
theorem dX6_addItem_24 : decode cX6_addItem 24 = .ok (.iadd, 1) := by decide +kernel
theorem dX6_addItem_25 : decode cX6_addItem 25 = .ok (.iload_n 2, 1) := by decide +kernel
theorem dX6_addItem_26 : decode cX6_addItem 26 = .ok (.iastore, 1) := by decide +kernel
theorem dX6_addItem_27 : decode cX6_addItem 27 = .ok (.aload_n 0, 1) := by decide +kernel
theorem dX6_addItem_28 : decode cX6_addItem 28 = .ok (.getfield 48, 3) := by decide +kernel
theorem dX6_addItem_31 : decode cX6_addItem 31 = .ok (.iload 7, 2) := by decide +kernel
theorem dX6_addItem_33 : decode cX6_addItem 33 = .ok (.iconst 2, 1) := by decide +kernel
theorem dX6_addItem_34 : decode cX6_addItem 34 = .ok (.iadd, 1) := by decide +kernel
theorem dX6_addItem_35 : decode cX6_addItem 35 = .ok (.iload_n 3, 1) := by decide +kernel
theorem dX6_addItem_36 : decode cX6_addItem 36 = .ok (.iastore, 1) := by decide +kernel
theorem dX6_addItem_37 : decode cX6_addItem 37 = .ok (.aload_n 0, 1) := by decide +kernel
theorem dX6_addItem_38 : decode cX6_addItem 38 = .ok (.getfield 48, 3) := by decide +kernel
theorem dX6_addItem_41 : decode cX6_addItem 41 = .ok (.iload 7, 2) := by decide +kernel
theorem dX6_addItem_43 : decode cX6_addItem 43 = .ok (.iconst 3, 1) := by decide +kernel
theorem dX6_addItem_44 : decode cX6_addItem 44 = .ok (.iadd, 1) := by decide +kernel
theorem dX6_addItem_45 : decode cX6_addItem 45 = .ok (.iload 4, 2) := by decide +kernel
theorem dX6_addItem_47 : decode cX6_addItem 47 = .ok (.iastore, 1) := by decide +kernel
theorem dX6_addItem_48 : decode cX6_addItem 48 = .ok (.aload_n 0, 1) := by decide +kernel
theorem dX6_addItem_49 : decode cX6_addItem 49 = .ok (.getfield 48, 3) := by decide +kernel
theorem dX6_addItem_52 : decode cX6_addItem 52 = .ok (.iload 7, 2) := by decide +kernel
theorem dX6_addItem_54 : decode cX6_addItem 54 = .ok (.iconst 4, 1) := by decide +kernel
theorem dX6_addItem_55 : decode cX6_addItem 55 = .ok (.iadd, 1) := by decide +kernel
theorem dX6_addItem_56 : decode cX6_addItem 56 = .ok (.iload 5, 2) := by decide +kernel
theorem dX6_addItem_58 : decode cX6_addItem 58 = .ok (.iastore, 1) := by decide +kernel
theorem dX6_addItem_59 : decode cX6_addItem 59 = .ok (.aload_n 0, 1) := by decide +kernel
theorem dX6_addItem_60 : decode cX6_addItem 60 = .ok (.getfield 48, 3) := by decide +kernel
theorem dX6_addItem_63 : decode cX6_addItem 63 = .ok (.iload 7, 2) := by decide +kernel
theorem dX6_addItem_65 : decode cX6_addItem 65 = .ok (.iconst 5, 1) := by decide +kernel
theorem dX6_addItem_66 : decode cX6_addItem 66 = .ok (.iadd, 1) := by decide +kernel
theorem dX6_addItem_67 : decode cX6_addItem 67 = .ok (.iload 6, 2) := by decide +kernel
theorem dX6_addItem_69 : decode cX6_addItem 69 = .ok (.iastore, 1) := by decide +kernel
theorem dX6_addItem_70 : decode cX6_addItem 70 = .ok (.aload_n 0, 1) := by decide +kernel
theorem dX6_addItem_71 : decode cX6_addItem 71 = .ok (.dup, 1) := by decide +kernel
theorem dX6_addItem_72 : decode cX6_addItem 72 = .ok (.getfield 274, 3) := by decide +kernel
theorem dX6_addItem_75 : decode cX6_addItem 75 = .ok (.iconst 1, 1) := by decide +kernel
theorem dX6_addItem_76 : decode cX6_addItem 76 = .ok (.iadd, 1) := by decide +kernel
theorem dX6_addItem_77 : decode cX6_addItem 77 = .ok (.putfield 274, 3) := by decide +kernel
theorem dX6_addItem_80 : decode cX6_addItem 80 = .ok (.return_, 1) := by decide +kernel
theorem dX6_takesWord_0 : decode cX6_takesWord 0 = .ok (.aload_n 0, 1) := by decide +kernel
theorem dX6_takesWord_1 : decode cX6_takesWord 1 = .ok (.getfield 263, 3) := by decide +kernel
theorem dX6_takesWord_4 : decode cX6_takesWord 4 = .ok (.ifCond .ne 15, 3) := by decide +kernel
theorem dX6_takesWord_7 : decode cX6_takesWord 7 = .ok (.aload_n 0, 1) := by decide +kernel
theorem dX6_takesWord_8 : decode cX6_takesWord 8 = .ok (.aload_n 1, 1) := by decide +kernel
theorem dX6_takesWord_9 : decode cX6_takesWord 9 = .ok (.invokevirtual 277, 3) := by decide +kernel
theorem dX6_takesWord_12 : decode cX6_takesWord 12 = .ok (.ifCond .eq 7, 3) := by decide +kernel
theorem dX6_takesWord_15 : decode cX6_takesWord 15 = .ok (.iconst 1, 1) := by decide +kernel
theorem dX6_takesWord_16 : decode cX6_takesWord 16 = .ok (.goto 4, 3) := by decide +kernel
theorem dX6_takesWord_19 : decode cX6_takesWord 19 = .ok (.iconst 0, 1) := by decide +kernel
theorem dX6_takesWord_20 : decode cX6_takesWord 20 = .ok (.istore_n 2, 1) := by decide +kernel
theorem dX6_takesWord_21 : decode cX6_takesWord 21 = .ok (.iload_n 2, 1) := by decide +kernel
theorem dX6_takesWord_22 : decode cX6_takesWord 22 = .ok (.ifCond .eq 8, 3) := by decide +kernel
theorem dX6_takesWord_25 : decode cX6_takesWord 25 = .ok (.aload_n 0, 1) := by decide +kernel
theorem dX6_takesWord_26 : decode cX6_takesWord 26 = .ok (.iconst 1, 1) := by decide +kernel
theorem dX6_takesWord_27 : decode cX6_takesWord 27 = .ok (.invokevirtual 270, 3) := by decide +kernel
theorem dX6_takesWord_30 : decode cX6_takesWord 30 = .ok (.iload_n 2, 1) := by decide +kernel
theorem dX6_takesWord_31 : decode cX6_takesWord 31 = .ok (.ireturn, 1) := by decide +kernel
theorem dX6_readSinger_0 : decode cX6_readSinger 0 = .ok (.aload_n 0, 1) := by decide +kernel
theorem dX6_readSinger_1 : decode cX6_readSinger 1 = .ok (.aload_n 0, 1) := by decide +kernel
theorem dX6_readSinger_2 : decode cX6_readSinger 2 = .ok (.getfield 281, 3) := by decide +kernel
theorem dX6_readSinger_5 : decode cX6_readSinger 5 = .ok (.bipush 8, 2) := by decide +kernel
theorem dX6_readSinger_7 : decode cX6_readSinger 7 = .ok (.if_icmp .ge 7, 3) := by decide +kernel
theorem dX6_readSinger_10 : decode cX6_readSinger 10 = .ok (.iconst 1, 1) := by decide +kernel
theorem dX6_readSinger_11 : decode cX6_readSinger 11 = .ok (.goto 4, 3) := by decide +kernel
theorem dX6_readSinger_14 : decode cX6_readSinger 14 = .ok (.iconst 0, 1) := by decide +kernel
theorem dX6_readSinger_15 : decode cX6_readSinger 15 = .ok (.invokevirtual 270, 3) := by decide +kernel
theorem dX6_readSinger_18 : decode cX6_readSinger 18 = .ok (.aload_n 0, 1) := by decide +kernel
theorem dX6_readSinger_19 : decode cX6_readSinger 19 = .ok (.ldc_w 284, 3) := by decide +kernel
theorem dX6_readSinger_22 : decode cX6_readSinger 22 = .ok (.invokevirtual 285, 3) := by decide +kernel
theorem dX6_readSinger_25 : decode cX6_readSinger 25 = .ok (.ifCond .eq 13, 3) := by decide +kernel
theorem dX6_readSinger_28 : decode cX6_readSinger 28 = .ok (.aload_n 0, 1) := by decide +kernel
theorem dX6_readSinger_29 : decode cX6_readSinger 29 = .ok (.iconst 0, 1) := by decide +kernel
theorem dX6_readSinger_30 : decode cX6_readSinger 30 = .ok (.bipush 59, 2) := by decide +kernel
theorem dX6_readSinger_32 : decode cX6_readSinger 32 = .ok (.invokevirtual 288, 3) := by decide +kernel
theorem dX6_readSinger_35 : decode cX6_readSinger 35 = .ok (.goto 4, 3) := by decide +kernel
theorem dX6_readSinger_38 : decode cX6_readSinger 38 = .ok (.iconst 0, 1) := by decide +kernel
theorem dX6_readSinger_39 : decode cX6_readSinger 39 = .ok (.istore_n 2, 1) := by decide +kernel
theorem dX6_readSinger_40 : decode cX6_readSinger 40 = .ok (.aload_n 0, 1) := by decide +kernel
theorem dX6_readSinger_41 : decode cX6_readSinger 41 = .ok (.ldc_w 291, 3) := by decide +kernel
theorem dX6_readSinger_44 : decode cX6_readSinger 44 = .ok (.invokevirtual 285, 3) := by decide +kernel
theorem dX6_readSinger_47 : decode cX6_readSinger 47 = .ok (.ifCond .eq 17, 3) := by decide +kernel
theorem dX6_readSinger_50 : decode cX6_readSinger 50 = .ok (.aload_n 0, 1) := by decide +kernel
theorem dX6_readSinger_51 : decode cX6_readSinger 51 = .ok (.iconst 0, 1) := by decide +kernel
theorem dX6_readSinger_52 : decode cX6_readSinger 52 = .ok (.aload_n 0, 1) := by decide +kernel
theorem dX6_readSinger_53 : decode cX6_readSinger 53 = .ok (.getfield 281, 3) := by decide +kernel
theorem dX6_readSinger_56 : decode cX6_readSinger 56 = .ok (.iconst 1, 1) := by decide +kernel
theorem dX6_readSinger_57 : decode cX6_readSinger 57 = .ok (.isub, 1) := by decide +kernel
theorem dX6_readSinger_58 : decode cX6_readSinger 58 = .ok (.invokevirtual 288, 3) := by decide +kernel
theorem dX6_readSinger_61 : decode cX6_readSinger 61 = .ok (.goto 4, 3) := by decide +kernel
theorem dX6_readSinger_64 : decode cX6_readSinger 64 = .ok (.iconst (-1), 1) := by decide +kernel
theorem dX6_readSinger_65 : decode cX6_readSinger 65 = .ok (.istore_n 3, 1) := by decide +kernel
theorem dX6_readSinger_66 : decode cX6_readSinger 66 = .ok (.aload_n 0, 1) := by decide +kernel
theorem dX6_readSinger_67 : decode cX6_readSinger 67 = .ok (.ldc_w 293, 3) := by decide +kernel
theorem dX6_readSinger_70 : decode cX6_readSinger 70 = .ok (.invokevirtual 285, 3) := by decide +kernel
theorem dX6_readSinger_73 : decode cX6_readSinger 73 = .ok (.ifCond .eq 13, 3) := by decide +kernel
theorem dX6_readSinger_76 : decode cX6_readSinger 76 = .ok (.aload_n 0, 1) := by decide +kernel
theorem dX6_readSinger_77 : decode cX6_readSinger 77 = .ok (.iconst 0, 1) := by decide +kernel
theorem dX6_readSinger_78 : decode cX6_readSinger 78 = .ok (.bipush 99, 2) := by decide +kernel
theorem dX6_readSinger_80 : decode cX6_readSinger 80 = .ok (.invokevirtual 288, 3) := by decide +kernel
theorem dX6_readSinger_83 : decode cX6_readSinger 83 = .ok (.goto 5, 3) := by decide +kernel
theorem dX6_readSinger_86 : decode cX6_readSinger 86 = .ok (.bipush 60, 2) := by decide +kernel
theorem dX6_readSinger_88 : decode cX6_readSinger 88 = .ok (.istore 4, 2) := by decide +kernel
theorem dX6_readSinger_90 : decode cX6_readSinger 90 = .ok (.aload_n 0, 1) := by decide +kernel
theorem dX6_readSinger_91 : decode cX6_readSinger 91 = .ok (.ldc_w 295, 3) := by decide +kernel
theorem dX6_readSinger_94 : decode cX6_readSinger 94 = .ok (.invokevirtual 285, 3) := by decide +kernel
theorem dX6_readSinger_97 : decode cX6_readSinger 97 = .ok (.ifCond .eq 13, 3) := by decide +kernel
theorem dX6_readSinger_100 : decode cX6_readSinger 100 = .ok (.aload_n 0, 1) := by decide +kernel
theorem dX6_readSinger_101 : decode cX6_readSinger 101 = .ok (.iconst 0, 1) := by decide +kernel
theorem dX6_readSinger_102 : decode cX6_readSinger 102 = .ok (.bipush 120, 2) := by decide +kernel
theorem dX6_readSinger_104 : decode cX6_readSinger 104 = .ok (.invokevirtual 288, 3) := by decide +kernel
theorem dX6_readSinger_107 : decode cX6_readSinger 107 = .ok (.goto 5, 3) := by decide +kernel
theorem dX6_readSinger_110 : decode cX6_readSinger 110 = .ok (.bipush 30, 2) := by decide +kernel
theorem dX6_readSinger_112 : decode cX6_readSinger 112 = .ok (.istore 5, 2) := by decide +kernel
theorem dX6_readSinger_114 : decode cX6_readSinger 114 = .ok (.aload_n 0, 1) := by decide +kernel
theorem dX6_readSinger_115 : decode cX6_readSinger 115 = .ok (.iload_n 1, 1) := by decide +kernel
theorem dX6_readSinger_116 : decode cX6_readSinger 116 = .ok (.iload_n 2, 1) := by decide +kernel
theorem dX6_readSinger_117 : decode cX6_readSinger 117 = .ok (.iload_n 3, 1) := by decide +kernel
theorem dX6_readSinger_118 : decode cX6_readSinger 118 = .ok (.iload 4, 2) := by decide +kernel
theorem dX6_readSinger_120 : decode cX6_readSinger 120 = .ok (.iload 5, 2) := by decide +kernel
theorem dX6_readSinger_122 : decode cX6_readSinger 122 = .ok (.aload_n 0, 1) := by decide +kernel
theorem dX6_readSinger_123 : decode cX6_readSinger 123 = .ok (.ldc_w 297, 3) := by decide +kernel
theorem dX6_readSinger_126 : decode cX6_readSinger 126 = .ok (.invokevirtual 285, 3) := by decide +kernel
theorem dX6_readSinger_129 : decode cX6_readSinger 129 = .ok (.ifCond .eq 13, 3) := by decide +kernel
theorem dX6_readSinger_132 : decode cX6_readSinger 132 = .ok (.aload_n 0, 1) := by decide +kernel
theorem dX6_readSinger_133 : decode cX6_readSinger 133 = .ok (.iconst 1, 1) := by decide +kernel
theorem dX6_readSinger_134 : decode cX6_readSinger 134 = .ok (.bipush 9, 2) := by decide +kernel
theorem dX6_readSinger_136 : decode cX6_readSinger 136 = .ok (.invokevirtual 288, 3) := by decide +kernel
theorem dX6_readSinger_139 : decode cX6_readSinger 139 = .ok (.goto 4, 3) := by decide +kernel
theorem dX6_readSinger_142 : decode cX6_readSinger 142 = .ok (.iconst 3, 1) := by decide +kernel
theorem dX6_readSinger_143 : decode cX6_readSinger 143 = .ok (.invokevirtual 299, 3) := by decide +kernel
theorem dX6_readSinger_146 : decode cX6_readSinger 146 = .ok (.aload_n 0, 1) := by decide +kernel
theorem dX6_readSinger_147 : decode cX6_readSinger 147 = .ok (.dup, 1) := by decide +kernel
theorem dX6_readSinger_148 : decode cX6_readSinger 148 = .ok (.getfield 281, 3) := by decide +kernel
theorem dX6_readSinger_151 : decode cX6_readSinger 151 = .ok (.iconst 1, 1) := by decide +kernel
theorem dX6_readSinger_152 : decode cX6_readSinger 152 = .ok (.iadd, 1) := by decide +kernel
theorem dX6_readSinger_153 : decode cX6_readSinger 153 = .ok (.putfield 281, 3) := by decide +kernel
theorem dX6_readSinger_156 : decode cX6_readSinger 156 = .ok (.return_, 1) := by decide +kernel
theorem dX6_readItem_0 : decode cX6_readItem 0 = .ok (.iconst (-1), 1) := by decide +kernel
theorem dX6_readItem_1 : decode cX6_readItem 1 = .ok (.istore_n 1, 1) := by decide +kernel
theorem dX6_readItem_2 : decode cX6_readItem 2 = .ok (.iconst 0, 1) := by decide +kernel
theorem dX6_readItem_3 : decode cX6_readItem 3 = .ok (.istore_n 2, 1) := by decide +kernel
theorem dX6_readItem_4 : decode cX6_readItem 4 = .ok (.iload_n 2, 1) := by decide +kernel
theorem dX6_readItem_5 : decode cX6_readItem 5 = .ok (.aload_n 0, 1) := by decide +kernel
theorem dX6_readItem_6 : decode cX6_readItem 6 = .ok (.getfield 44, 3) := by decide +kernel
theorem dX6_readItem_9 : decode cX6_readItem 9 = .ok (.arraylength, 1) := by decide +kernel
theorem dX6_readItem_10 : decode cX6_readItem 10 = .ok (.if_icmp .ge 28, 3) := by decide +kernel
theorem dX6_readItem_13 : decode cX6_readItem 13 = .ok (.aload_n 0, 1) := by decide +kernel
theorem dX6_readItem_14 : decode cX6_readItem 14 = .ok (.aload_n 0, 1) := by decide +kernel
theorem dX6_readItem_15 : decode cX6_readItem 15 = .ok (.getfield 44, 3) := by decide +kernel
theorem dX6_readItem_18 : decode cX6_readItem 18 = .ok (.iload_n 2, 1) := by decide +kernel
theorem dX6_readItem_19 : decode cX6_readItem 19 = .ok (.aaload, 1) := by decide +kernel
theorem dX6_readItem_20 : decode cX6_readItem 20 = .ok (.invokevirtual 277, 3) := by decide +kernel
theorem dX6_readItem_23 : decode cX6_readItem 23 = .ok (.ifCond .eq 7, 3) := by decide +kernel
theorem dX6_readItem_26 : decode cX6_readItem 26 = .ok (.iload_n 2, 1) := by decide +kernel
theorem dX6_readItem_27 : decode cX6_readItem 27 = .ok (.goto 4, 3) := by decide +kernel
