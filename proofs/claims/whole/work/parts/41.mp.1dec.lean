theorem d_Mo_reckonFit_0 : decode b_Mo_reckonFit 0 = .ok (.iconst 1, 1) := by decide +kernel
theorem d_Mo_reckonFit_1 : decode b_Mo_reckonFit 1 = .ok (.istore_n 3, 1) := by decide +kernel
theorem d_Mo_reckonFit_2 : decode b_Mo_reckonFit 2 = .ok (.iconst 0, 1) := by decide +kernel
theorem d_Mo_reckonFit_3 : decode b_Mo_reckonFit 3 = .ok (.istore 4, 2) := by decide +kernel
theorem d_Mo_reckonFit_5 : decode b_Mo_reckonFit 5 = .ok (.iload 4, 2) := by decide +kernel
theorem d_Mo_reckonFit_7 : decode b_Mo_reckonFit 7 = .ok (.iconst 2, 1) := by decide +kernel
theorem d_Mo_reckonFit_8 : decode b_Mo_reckonFit 8 = .ok (.aload_n 0, 1) := by decide +kernel
theorem d_Mo_reckonFit_9 : decode b_Mo_reckonFit 9 = .ok (.getfield 89, 3) := by decide +kernel
theorem d_Mo_reckonFit_12 : decode b_Mo_reckonFit 12 = .ok (.imul, 1) := by decide +kernel
theorem d_Mo_reckonFit_13 : decode b_Mo_reckonFit 13 = .ok (.if_icmp .ge 13, 3) := by decide +kernel
theorem d_Mo_reckonFit_16 : decode b_Mo_reckonFit 16 = .ok (.iconst 3, 1) := by decide +kernel
theorem d_Mo_reckonFit_17 : decode b_Mo_reckonFit 17 = .ok (.iload_n 3, 1) := by decide +kernel
theorem d_Mo_reckonFit_18 : decode b_Mo_reckonFit 18 = .ok (.imul, 1) := by decide +kernel
theorem d_Mo_reckonFit_19 : decode b_Mo_reckonFit 19 = .ok (.istore_n 3, 1) := by decide +kernel
theorem d_Mo_reckonFit_20 : decode b_Mo_reckonFit 20 = .ok (.iinc 4 1, 3) := by decide +kernel
theorem d_Mo_reckonFit_23 : decode b_Mo_reckonFit 23 = .ok (.goto (-18), 3) := by decide +kernel
theorem d_Mo_reckonFit_26 : decode b_Mo_reckonFit 26 = .ok (.iconst 0, 1) := by decide +kernel
theorem d_Mo_reckonFit_27 : decode b_Mo_reckonFit 27 = .ok (.istore 4, 2) := by decide +kernel
theorem d_Mo_reckonFit_29 : decode b_Mo_reckonFit 29 = .ok (.iconst 0, 1) := by decide +kernel
theorem d_Mo_reckonFit_30 : decode b_Mo_reckonFit 30 = .ok (.istore 5, 2) := by decide +kernel
theorem d_Mo_reckonFit_32 : decode b_Mo_reckonFit 32 = .ok (.iload 5, 2) := by decide +kernel
theorem d_Mo_reckonFit_34 : decode b_Mo_reckonFit 34 = .ok (.iload_n 3, 1) := by decide +kernel
theorem d_Mo_reckonFit_35 : decode b_Mo_reckonFit 35 = .ok (.if_icmp .ge 102, 3) := by decide +kernel
theorem d_Mo_reckonFit_38 : decode b_Mo_reckonFit 38 = .ok (.iload 5, 2) := by decide +kernel
theorem d_Mo_reckonFit_40 : decode b_Mo_reckonFit 40 = .ok (.istore 6, 2) := by decide +kernel
theorem d_Mo_reckonFit_42 : decode b_Mo_reckonFit 42 = .ok (.iconst 1, 1) := by decide +kernel
theorem d_Mo_reckonFit_43 : decode b_Mo_reckonFit 43 = .ok (.istore 7, 2) := by decide +kernel
theorem d_Mo_reckonFit_45 : decode b_Mo_reckonFit 45 = .ok (.iconst 0, 1) := by decide +kernel
theorem d_Mo_reckonFit_46 : decode b_Mo_reckonFit 46 = .ok (.istore 8, 2) := by decide +kernel
theorem d_Mo_reckonFit_48 : decode b_Mo_reckonFit 48 = .ok (.iload 8, 2) := by decide +kernel
theorem d_Mo_reckonFit_50 : decode b_Mo_reckonFit 50 = .ok (.iconst 2, 1) := by decide +kernel
theorem d_Mo_reckonFit_51 : decode b_Mo_reckonFit 51 = .ok (.aload_n 0, 1) := by decide +kernel
theorem d_Mo_reckonFit_52 : decode b_Mo_reckonFit 52 = .ok (.getfield 89, 3) := by decide +kernel
theorem d_Mo_reckonFit_55 : decode b_Mo_reckonFit 55 = .ok (.imul, 1) := by decide +kernel
theorem d_Mo_reckonFit_56 : decode b_Mo_reckonFit 56 = .ok (.if_icmp .ge 49, 3) := by decide +kernel
theorem d_Mo_reckonFit_59 : decode b_Mo_reckonFit 59 = .ok (.aload_n 0, 1) := by decide +kernel
theorem d_Mo_reckonFit_60 : decode b_Mo_reckonFit 60 = .ok (.getfield 31, 3) := by decide +kernel
theorem d_Mo_reckonFit_63 : decode b_Mo_reckonFit 63 = .ok (.iload 8, 2) := by decide +kernel
theorem d_Mo_reckonFit_65 : decode b_Mo_reckonFit 65 = .ok (.iconst 1, 1) := by decide +kernel
theorem d_Mo_reckonFit_66 : decode b_Mo_reckonFit 66 = .ok (.iload 6, 2) := by decide +kernel
theorem d_Mo_reckonFit_68 : decode b_Mo_reckonFit 68 = .ok (.iconst 3, 1) := by decide +kernel
theorem d_Mo_reckonFit_69 : decode b_Mo_reckonFit 69 = .ok (.irem, 1) := by decide +kernel
theorem d_Mo_reckonFit_70 : decode b_Mo_reckonFit 70 = .ok (.iadd, 1) := by decide +kernel
theorem d_Mo_reckonFit_71 : decode b_Mo_reckonFit 71 = .ok (.iastore, 1) := by decide +kernel
theorem d_Mo_reckonFit_72 : decode b_Mo_reckonFit 72 = .ok (.iload 6, 2) := by decide +kernel
theorem d_Mo_reckonFit_74 : decode b_Mo_reckonFit 74 = .ok (.iconst 3, 1) := by decide +kernel
theorem d_Mo_reckonFit_75 : decode b_Mo_reckonFit 75 = .ok (.idiv, 1) := by decide +kernel
theorem d_Mo_reckonFit_76 : decode b_Mo_reckonFit 76 = .ok (.istore 6, 2) := by decide +kernel
theorem d_Mo_reckonFit_78 : decode b_Mo_reckonFit 78 = .ok (.iload 7, 2) := by decide +kernel
theorem d_Mo_reckonFit_80 : decode b_Mo_reckonFit 80 = .ok (.aload_n 0, 1) := by decide +kernel
theorem d_Mo_reckonFit_81 : decode b_Mo_reckonFit 81 = .ok (.getfield 19, 3) := by decide +kernel
theorem d_Mo_reckonFit_84 : decode b_Mo_reckonFit 84 = .ok (.iconst 4, 1) := by decide +kernel
theorem d_Mo_reckonFit_85 : decode b_Mo_reckonFit 85 = .ok (.iload_n 1, 1) := by decide +kernel
theorem d_Mo_reckonFit_86 : decode b_Mo_reckonFit 86 = .ok (.imul, 1) := by decide +kernel
theorem d_Mo_reckonFit_87 : decode b_Mo_reckonFit 87 = .ok (.aload_n 0, 1) := by decide +kernel
theorem d_Mo_reckonFit_88 : decode b_Mo_reckonFit 88 = .ok (.getfield 31, 3) := by decide +kernel
theorem d_Mo_reckonFit_91 : decode b_Mo_reckonFit 91 = .ok (.iload 8, 2) := by decide +kernel
theorem d_Mo_reckonFit_93 : decode b_Mo_reckonFit 93 = .ok (.iaload, 1) := by decide +kernel
theorem d_Mo_reckonFit_94 : decode b_Mo_reckonFit 94 = .ok (.iadd, 1) := by decide +kernel
theorem d_Mo_reckonFit_95 : decode b_Mo_reckonFit 95 = .ok (.iaload, 1) := by decide +kernel
theorem d_Mo_reckonFit_96 : decode b_Mo_reckonFit 96 = .ok (.imul, 1) := by decide +kernel
theorem d_Mo_reckonFit_97 : decode b_Mo_reckonFit 97 = .ok (.istore 7, 2) := by decide +kernel
theorem d_Mo_reckonFit_99 : decode b_Mo_reckonFit 99 = .ok (.iinc 8 1, 3) := by decide +kernel
theorem d_Mo_reckonFit_102 : decode b_Mo_reckonFit 102 = .ok (.goto (-54), 3) := by decide +kernel
theorem d_Mo_reckonFit_105 : decode b_Mo_reckonFit 105 = .ok (.iload 7, 2) := by decide +kernel
theorem d_Mo_reckonFit_107 : decode b_Mo_reckonFit 107 = .ok (.ifCond .le 20, 3) := by decide +kernel
theorem d_Mo_reckonFit_110 : decode b_Mo_reckonFit 110 = .ok (.aload_n 0, 1) := by decide +kernel
theorem d_Mo_reckonFit_111 : decode b_Mo_reckonFit 111 = .ok (.iload_n 1, 1) := by decide +kernel
theorem d_Mo_reckonFit_112 : decode b_Mo_reckonFit 112 = .ok (.iload_n 2, 1) := by decide +kernel
theorem d_Mo_reckonFit_113 : decode b_Mo_reckonFit 113 = .ok (.invokevirtual 126, 3) := by decide +kernel
theorem d_Mo_reckonFit_116 : decode b_Mo_reckonFit 116 = .ok (.ifCond .eq 11, 3) := by decide +kernel
theorem d_Mo_reckonFit_119 : decode b_Mo_reckonFit 119 = .ok (.iload 4, 2) := by decide +kernel
theorem d_Mo_reckonFit_121 : decode b_Mo_reckonFit 121 = .ok (.iload 7, 2) := by decide +kernel
theorem d_Mo_reckonFit_123 : decode b_Mo_reckonFit 123 = .ok (.iadd, 1) := by decide +kernel
theorem d_Mo_reckonFit_124 : decode b_Mo_reckonFit 124 = .ok (.goto 5, 3) := by decide +kernel
theorem d_Mo_reckonFit_127 : decode b_Mo_reckonFit 127 = .ok (.iload 4, 2) := by decide +kernel
theorem d_Mo_reckonFit_129 : decode b_Mo_reckonFit 129 = .ok (.istore 4, 2) := by decide +kernel
theorem d_Mo_reckonFit_131 : decode b_Mo_reckonFit 131 = .ok (.iinc 5 1, 3) := by decide +kernel
theorem d_Mo_reckonFit_134 : decode b_Mo_reckonFit 134 = .ok (.goto (-102), 3) := by decide +kernel
theorem d_Mo_reckonFit_137 : decode b_Mo_reckonFit 137 = .ok (.iload 4, 2) := by decide +kernel
theorem d_Mo_reckonFit_139 : decode b_Mo_reckonFit 139 = .ok (.ireturn, 1) := by decide +kernel
theorem d_Mo_fitOf_0 : decode b_Mo_fitOf 0 = .ok (.aload_n 0, 1) := by decide +kernel
theorem d_Mo_fitOf_1 : decode b_Mo_fitOf 1 = .ok (.getfield 34, 3) := by decide +kernel
theorem d_Mo_fitOf_4 : decode b_Mo_fitOf 4 = .ok (.iload_n 1, 1) := by decide +kernel
theorem d_Mo_fitOf_5 : decode b_Mo_fitOf 5 = .ok (.baload, 1) := by decide +kernel
theorem d_Mo_fitOf_6 : decode b_Mo_fitOf 6 = .ok (.ifCond .ne 43, 3) := by decide +kernel
theorem d_Mo_fitOf_9 : decode b_Mo_fitOf 9 = .ok (.iconst 0, 1) := by decide +kernel
theorem d_Mo_fitOf_10 : decode b_Mo_fitOf 10 = .ok (.istore_n 3, 1) := by decide +kernel
theorem d_Mo_fitOf_11 : decode b_Mo_fitOf 11 = .ok (.iload_n 3, 1) := by decide +kernel
theorem d_Mo_fitOf_12 : decode b_Mo_fitOf 12 = .ok (.aload_n 0, 1) := by decide +kernel
theorem d_Mo_fitOf_13 : decode b_Mo_fitOf 13 = .ok (.invokevirtual 115, 3) := by decide +kernel
theorem d_Mo_fitOf_16 : decode b_Mo_fitOf 16 = .ok (.if_icmp .ge 26, 3) := by decide +kernel
theorem d_Mo_fitOf_19 : decode b_Mo_fitOf 19 = .ok (.aload_n 0, 1) := by decide +kernel
theorem d_Mo_fitOf_20 : decode b_Mo_fitOf 20 = .ok (.getfield 38, 3) := by decide +kernel
theorem d_Mo_fitOf_23 : decode b_Mo_fitOf 23 = .ok (.bipush 64, 2) := by decide +kernel
theorem d_Mo_fitOf_25 : decode b_Mo_fitOf 25 = .ok (.iload_n 1, 1) := by decide +kernel
theorem d_Mo_fitOf_26 : decode b_Mo_fitOf 26 = .ok (.imul, 1) := by decide +kernel
theorem d_Mo_fitOf_27 : decode b_Mo_fitOf 27 = .ok (.iload_n 3, 1) := by decide +kernel
theorem d_Mo_fitOf_28 : decode b_Mo_fitOf 28 = .ok (.iadd, 1) := by decide +kernel
theorem d_Mo_fitOf_29 : decode b_Mo_fitOf 29 = .ok (.aload_n 0, 1) := by decide +kernel
theorem d_Mo_fitOf_30 : decode b_Mo_fitOf 30 = .ok (.iload_n 1, 1) := by decide +kernel
theorem d_Mo_fitOf_31 : decode b_Mo_fitOf 31 = .ok (.iload_n 3, 1) := by decide +kernel
theorem d_Mo_fitOf_32 : decode b_Mo_fitOf 32 = .ok (.invokevirtual 130, 3) := by decide +kernel
theorem d_Mo_fitOf_35 : decode b_Mo_fitOf 35 = .ok (.iastore, 1) := by decide +kernel
theorem d_Mo_fitOf_36 : decode b_Mo_fitOf 36 = .ok (.iinc 3 1, 3) := by decide +kernel
theorem d_Mo_fitOf_39 : decode b_Mo_fitOf 39 = .ok (.goto (-28), 3) := by decide +kernel
theorem d_Mo_fitOf_42 : decode b_Mo_fitOf 42 = .ok (.aload_n 0, 1) := by decide +kernel
theorem d_Mo_fitOf_43 : decode b_Mo_fitOf 43 = .ok (.getfield 34, 3) := by decide +kernel
theorem d_Mo_fitOf_46 : decode b_Mo_fitOf 46 = .ok (.iload_n 1, 1) := by decide +kernel
theorem d_Mo_fitOf_47 : decode b_Mo_fitOf 47 = .ok (.iconst 1, 1) := by decide +kernel
theorem d_Mo_fitOf_48 : decode b_Mo_fitOf 48 = .ok (.bastore, 1) := by decide +kernel
theorem d_Mo_fitOf_49 : decode b_Mo_fitOf 49 = .ok (.aload_n 0, 1) := by decide +kernel
theorem d_Mo_fitOf_50 : decode b_Mo_fitOf 50 = .ok (.getfield 38, 3) := by decide +kernel
theorem d_Mo_fitOf_53 : decode b_Mo_fitOf 53 = .ok (.bipush 64, 2) := by decide +kernel
theorem d_Mo_fitOf_55 : decode b_Mo_fitOf 55 = .ok (.iload_n 1, 1) := by decide +kernel
theorem d_Mo_fitOf_56 : decode b_Mo_fitOf 56 = .ok (.imul, 1) := by decide +kernel
theorem d_Mo_fitOf_57 : decode b_Mo_fitOf 57 = .ok (.iload_n 2, 1) := by decide +kernel
theorem d_Mo_fitOf_58 : decode b_Mo_fitOf 58 = .ok (.iadd, 1) := by decide +kernel
theorem d_Mo_fitOf_59 : decode b_Mo_fitOf 59 = .ok (.iaload, 1) := by decide +kernel
theorem d_Mo_fitOf_60 : decode b_Mo_fitOf 60 = .ok (.ireturn, 1) := by decide +kernel
theorem d_Mo_clear_0 : decode b_Mo_clear 0 = .ok (.iconst 0, 1) := by decide +kernel
theorem d_Mo_clear_1 : decode b_Mo_clear 1 = .ok (.istore_n 2, 1) := by decide +kernel
theorem d_Mo_clear_2 : decode b_Mo_clear 2 = .ok (.iload_n 2, 1) := by decide +kernel
theorem d_Mo_clear_3 : decode b_Mo_clear 3 = .ok (.bipush 8, 2) := by decide +kernel
theorem d_Mo_clear_5 : decode b_Mo_clear 5 = .ok (.if_icmp .ge 15, 3) := by decide +kernel
theorem d_Mo_clear_8 : decode b_Mo_clear 8 = .ok (.aload_n 0, 1) := by decide +kernel
theorem d_Mo_clear_9 : decode b_Mo_clear 9 = .ok (.iload_n 1, 1) := by decide +kernel
theorem d_Mo_clear_10 : decode b_Mo_clear 10 = .ok (.iload_n 2, 1) := by decide +kernel
theorem d_Mo_clear_11 : decode b_Mo_clear 11 = .ok (.iadd, 1) := by decide +kernel
theorem d_Mo_clear_12 : decode b_Mo_clear 12 = .ok (.lconst 0, 1) := by decide +kernel
theorem d_Mo_clear_13 : decode b_Mo_clear 13 = .ok (.lastore, 1) := by decide +kernel
theorem d_Mo_clear_14 : decode b_Mo_clear 14 = .ok (.iinc 2 1, 3) := by decide +kernel
theorem d_Mo_clear_17 : decode b_Mo_clear 17 = .ok (.goto (-15), 3) := by decide +kernel
theorem d_Mo_clear_20 : decode b_Mo_clear 20 = .ok (.return_, 1) := by decide +kernel
theorem d_Mo_addTimes_0 : decode b_Mo_addTimes 0 = .ok (.lconst 0, 1) := by decide +kernel
theorem d_Mo_addTimes_1 : decode b_Mo_addTimes 1 = .ok (.lstore 6, 2) := by decide +kernel
theorem d_Mo_addTimes_3 : decode b_Mo_addTimes 3 = .ok (.iconst 0, 1) := by decide +kernel
theorem d_Mo_addTimes_4 : decode b_Mo_addTimes 4 = .ok (.istore 8, 2) := by decide +kernel
theorem d_Mo_addTimes_6 : decode b_Mo_addTimes 6 = .ok (.iload 8, 2) := by decide +kernel
theorem d_Mo_addTimes_8 : decode b_Mo_addTimes 8 = .ok (.bipush 8, 2) := by decide +kernel
theorem d_Mo_addTimes_10 : decode b_Mo_addTimes 10 = .ok (.if_icmp .ge 50, 3) := by decide +kernel
theorem d_Mo_addTimes_13 : decode b_Mo_addTimes 13 = .ok (.lload 6, 2) := by decide +kernel
theorem d_Mo_addTimes_15 : decode b_Mo_addTimes 15 = .ok (.aload_n 0, 1) := by decide +kernel
theorem d_Mo_addTimes_16 : decode b_Mo_addTimes 16 = .ok (.iload_n 1, 1) := by decide +kernel
theorem d_Mo_addTimes_17 : decode b_Mo_addTimes 17 = .ok (.iload 8, 2) := by decide +kernel
theorem d_Mo_addTimes_19 : decode b_Mo_addTimes 19 = .ok (.iadd, 1) := by decide +kernel
theorem d_Mo_addTimes_20 : decode b_Mo_addTimes 20 = .ok (.laload, 1) := by decide +kernel
theorem d_Mo_addTimes_21 : decode b_Mo_addTimes 21 = .ok (.ladd, 1) := by decide +kernel
theorem d_Mo_addTimes_22 : decode b_Mo_addTimes 22 = .ok (.aload_n 2, 1) := by decide +kernel
theorem d_Mo_addTimes_23 : decode b_Mo_addTimes 23 = .ok (.iload_n 3, 1) := by decide +kernel
theorem d_Mo_addTimes_24 : decode b_Mo_addTimes 24 = .ok (.iload 8, 2) := by decide +kernel
theorem d_Mo_addTimes_26 : decode b_Mo_addTimes 26 = .ok (.iadd, 1) := by decide +kernel
theorem d_Mo_addTimes_27 : decode b_Mo_addTimes 27 = .ok (.laload, 1) := by decide +kernel
theorem d_Mo_addTimes_28 : decode b_Mo_addTimes 28 = .ok (.lload 4, 2) := by decide +kernel
theorem d_Mo_addTimes_30 : decode b_Mo_addTimes 30 = .ok (.lmul, 1) := by decide +kernel
theorem d_Mo_addTimes_31 : decode b_Mo_addTimes 31 = .ok (.ladd, 1) := by decide +kernel
theorem d_Mo_addTimes_32 : decode b_Mo_addTimes 32 = .ok (.lstore 6, 2) := by decide +kernel
theorem d_Mo_addTimes_34 : decode b_Mo_addTimes 34 = .ok (.aload_n 0, 1) := by decide +kernel
theorem d_Mo_addTimes_35 : decode b_Mo_addTimes 35 = .ok (.iload_n 1, 1) := by decide +kernel
theorem d_Mo_addTimes_36 : decode b_Mo_addTimes 36 = .ok (.iload 8, 2) := by decide +kernel
theorem d_Mo_addTimes_38 : decode b_Mo_addTimes 38 = .ok (.iadd, 1) := by decide +kernel
theorem d_Mo_addTimes_39 : decode b_Mo_addTimes 39 = .ok (.lload 6, 2) := by decide +kernel
theorem d_Mo_addTimes_41 : decode b_Mo_addTimes 41 = .ok (.ldc2_w 137, 3) := by decide +kernel
theorem d_Mo_addTimes_44 : decode b_Mo_addTimes 44 = .ok (.lrem, 1) := by decide +kernel
theorem d_Mo_addTimes_45 : decode b_Mo_addTimes 45 = .ok (.lastore, 1) := by decide +kernel
theorem d_Mo_addTimes_46 : decode b_Mo_addTimes 46 = .ok (.lload 6, 2) := by decide +kernel
theorem d_Mo_addTimes_48 : decode b_Mo_addTimes 48 = .ok (.ldc2_w 137, 3) := by decide +kernel
theorem d_Mo_addTimes_51 : decode b_Mo_addTimes 51 = .ok (.ldiv, 1) := by decide +kernel
theorem d_Mo_addTimes_52 : decode b_Mo_addTimes 52 = .ok (.lstore 6, 2) := by decide +kernel
theorem d_Mo_addTimes_54 : decode b_Mo_addTimes 54 = .ok (.iinc 8 1, 3) := by decide +kernel
theorem d_Mo_addTimes_57 : decode b_Mo_addTimes 57 = .ok (.goto (-51), 3) := by decide +kernel
theorem d_Mo_addTimes_60 : decode b_Mo_addTimes 60 = .ok (.return_, 1) := by decide +kernel
theorem d_Mo_times_0 : decode b_Mo_times 0 = .ok (.lconst 0, 1) := by decide +kernel
theorem d_Mo_times_1 : decode b_Mo_times 1 = .ok (.lstore 4, 2) := by decide +kernel
theorem d_Mo_times_3 : decode b_Mo_times 3 = .ok (.iconst 0, 1) := by decide +kernel
theorem d_Mo_times_4 : decode b_Mo_times 4 = .ok (.istore 6, 2) := by decide +kernel
theorem d_Mo_times_6 : decode b_Mo_times 6 = .ok (.iload 6, 2) := by decide +kernel
theorem d_Mo_times_8 : decode b_Mo_times 8 = .ok (.bipush 8, 2) := by decide +kernel
theorem d_Mo_times_10 : decode b_Mo_times 10 = .ok (.if_icmp .ge 42, 3) := by decide +kernel
theorem d_Mo_times_13 : decode b_Mo_times 13 = .ok (.lload 4, 2) := by decide +kernel
theorem d_Mo_times_15 : decode b_Mo_times 15 = .ok (.aload_n 0, 1) := by decide +kernel
theorem d_Mo_times_16 : decode b_Mo_times 16 = .ok (.iload_n 1, 1) := by decide +kernel
theorem d_Mo_times_17 : decode b_Mo_times 17 = .ok (.iload 6, 2) := by decide +kernel
theorem d_Mo_times_19 : decode b_Mo_times 19 = .ok (.iadd, 1) := by decide +kernel
theorem d_Mo_times_20 : decode b_Mo_times 20 = .ok (.laload, 1) := by decide +kernel
theorem d_Mo_times_21 : decode b_Mo_times 21 = .ok (.lload_n 2, 1) := by decide +kernel
theorem d_Mo_times_22 : decode b_Mo_times 22 = .ok (.lmul, 1) := by decide +kernel
theorem d_Mo_times_23 : decode b_Mo_times 23 = .ok (.ladd, 1) := by decide +kernel
theorem d_Mo_times_24 : decode b_Mo_times 24 = .ok (.lstore 4, 2) := by decide +kernel
theorem d_Mo_times_26 : decode b_Mo_times 26 = .ok (.aload_n 0, 1) := by decide +kernel
theorem d_Mo_times_27 : decode b_Mo_times 27 = .ok (.iload_n 1, 1) := by decide +kernel
theorem d_Mo_times_28 : decode b_Mo_times 28 = .ok (.iload 6, 2) := by decide +kernel
theorem d_Mo_times_30 : decode b_Mo_times 30 = .ok (.iadd, 1) := by decide +kernel
theorem d_Mo_times_31 : decode b_Mo_times 31 = .ok (.lload 4, 2) := by decide +kernel
theorem d_Mo_times_33 : decode b_Mo_times 33 = .ok (.ldc2_w 137, 3) := by decide +kernel
theorem d_Mo_times_36 : decode b_Mo_times 36 = .ok (.lrem, 1) := by decide +kernel
theorem d_Mo_times_37 : decode b_Mo_times 37 = .ok (.lastore, 1) := by decide +kernel
theorem d_Mo_times_38 : decode b_Mo_times 38 = .ok (.lload 4, 2) := by decide +kernel
theorem d_Mo_times_40 : decode b_Mo_times 40 = .ok (.ldc2_w 137, 3) := by decide +kernel
theorem d_Mo_times_43 : decode b_Mo_times 43 = .ok (.ldiv, 1) := by decide +kernel
theorem d_Mo_times_44 : decode b_Mo_times 44 = .ok (.lstore 4, 2) := by decide +kernel
theorem d_Mo_times_46 : decode b_Mo_times 46 = .ok (.iinc 6 1, 3) := by decide +kernel
theorem d_Mo_times_49 : decode b_Mo_times 49 = .ok (.goto (-43), 3) := by decide +kernel
theorem d_Mo_times_52 : decode b_Mo_times 52 = .ok (.return_, 1) := by decide +kernel
theorem d_Mo_compare_0 : decode b_Mo_compare 0 = .ok (.iconst 0, 1) := by decide +kernel
theorem d_Mo_compare_1 : decode b_Mo_compare 1 = .ok (.istore 4, 2) := by decide +kernel
theorem d_Mo_compare_3 : decode b_Mo_compare 3 = .ok (.iconst 0, 1) := by decide +kernel
theorem d_Mo_compare_4 : decode b_Mo_compare 4 = .ok (.istore 5, 2) := by decide +kernel
theorem d_Mo_compare_6 : decode b_Mo_compare 6 = .ok (.iload 5, 2) := by decide +kernel
theorem d_Mo_compare_8 : decode b_Mo_compare 8 = .ok (.bipush 8, 2) := by decide +kernel
theorem d_Mo_compare_10 : decode b_Mo_compare 10 = .ok (.if_icmp .ge 53, 3) := by decide +kernel
theorem d_Mo_compare_13 : decode b_Mo_compare 13 = .ok (.aload_n 0, 1) := by decide +kernel
theorem d_Mo_compare_14 : decode b_Mo_compare 14 = .ok (.iload_n 1, 1) := by decide +kernel
theorem d_Mo_compare_15 : decode b_Mo_compare 15 = .ok (.iload 5, 2) := by decide +kernel
theorem d_Mo_compare_17 : decode b_Mo_compare 17 = .ok (.iadd, 1) := by decide +kernel
theorem d_Mo_compare_18 : decode b_Mo_compare 18 = .ok (.laload, 1) := by decide +kernel
theorem d_Mo_compare_19 : decode b_Mo_compare 19 = .ok (.aload_n 2, 1) := by decide +kernel
theorem d_Mo_compare_20 : decode b_Mo_compare 20 = .ok (.iload_n 3, 1) := by decide +kernel
theorem d_Mo_compare_21 : decode b_Mo_compare 21 = .ok (.iload 5, 2) := by decide +kernel
theorem d_Mo_compare_23 : decode b_Mo_compare 23 = .ok (.iadd, 1) := by decide +kernel
theorem d_Mo_compare_24 : decode b_Mo_compare 24 = .ok (.laload, 1) := by decide +kernel
theorem d_Mo_compare_25 : decode b_Mo_compare 25 = .ok (.lcmp, 1) := by decide +kernel
theorem d_Mo_compare_26 : decode b_Mo_compare 26 = .ok (.ifCond .ge 7, 3) := by decide +kernel
theorem d_Mo_compare_29 : decode b_Mo_compare 29 = .ok (.iconst (-1), 1) := by decide +kernel
theorem d_Mo_compare_30 : decode b_Mo_compare 30 = .ok (.goto 25, 3) := by decide +kernel
theorem d_Mo_compare_33 : decode b_Mo_compare 33 = .ok (.aload_n 0, 1) := by decide +kernel
theorem d_Mo_compare_34 : decode b_Mo_compare 34 = .ok (.iload_n 1, 1) := by decide +kernel
theorem d_Mo_compare_35 : decode b_Mo_compare 35 = .ok (.iload 5, 2) := by decide +kernel
theorem d_Mo_compare_37 : decode b_Mo_compare 37 = .ok (.iadd, 1) := by decide +kernel
theorem d_Mo_compare_38 : decode b_Mo_compare 38 = .ok (.laload, 1) := by decide +kernel
theorem d_Mo_compare_39 : decode b_Mo_compare 39 = .ok (.aload_n 2, 1) := by decide +kernel
theorem d_Mo_compare_40 : decode b_Mo_compare 40 = .ok (.iload_n 3, 1) := by decide +kernel
theorem d_Mo_compare_41 : decode b_Mo_compare 41 = .ok (.iload 5, 2) := by decide +kernel
theorem d_Mo_compare_43 : decode b_Mo_compare 43 = .ok (.iadd, 1) := by decide +kernel
theorem d_Mo_compare_44 : decode b_Mo_compare 44 = .ok (.laload, 1) := by decide +kernel
theorem d_Mo_compare_45 : decode b_Mo_compare 45 = .ok (.lcmp, 1) := by decide +kernel
theorem d_Mo_compare_46 : decode b_Mo_compare 46 = .ok (.ifCond .le 7, 3) := by decide +kernel
theorem d_Mo_compare_49 : decode b_Mo_compare 49 = .ok (.iconst 1, 1) := by decide +kernel
theorem d_Mo_compare_50 : decode b_Mo_compare 50 = .ok (.goto 5, 3) := by decide +kernel
theorem d_Mo_compare_53 : decode b_Mo_compare 53 = .ok (.iload 4, 2) := by decide +kernel
theorem d_Mo_compare_55 : decode b_Mo_compare 55 = .ok (.istore 4, 2) := by decide +kernel
theorem d_Mo_compare_57 : decode b_Mo_compare 57 = .ok (.iinc 5 1, 3) := by decide +kernel
theorem d_Mo_compare_60 : decode b_Mo_compare 60 = .ok (.goto (-54), 3) := by decide +kernel
theorem d_Mo_compare_63 : decode b_Mo_compare 63 = .ok (.iload 4, 2) := by decide +kernel
theorem d_Mo_compare_65 : decode b_Mo_compare 65 = .ok (.ireturn, 1) := by decide +kernel
theorem d_Mo_isNothing_0 : decode b_Mo_isNothing 0 = .ok (.iconst 1, 1) := by decide +kernel
theorem d_Mo_isNothing_1 : decode b_Mo_isNothing 1 = .ok (.istore_n 1, 1) := by decide +kernel
theorem d_Mo_isNothing_2 : decode b_Mo_isNothing 2 = .ok (.iconst 0, 1) := by decide +kernel
theorem d_Mo_isNothing_3 : decode b_Mo_isNothing 3 = .ok (.istore_n 2, 1) := by decide +kernel
theorem d_Mo_isNothing_4 : decode b_Mo_isNothing 4 = .ok (.iload_n 2, 1) := by decide +kernel
theorem d_Mo_isNothing_5 : decode b_Mo_isNothing 5 = .ok (.bipush 8, 2) := by decide +kernel
theorem d_Mo_isNothing_7 : decode b_Mo_isNothing 7 = .ok (.if_icmp .ge 27, 3) := by decide +kernel
theorem d_Mo_isNothing_10 : decode b_Mo_isNothing 10 = .ok (.iload_n 1, 1) := by decide +kernel
theorem d_Mo_isNothing_11 : decode b_Mo_isNothing 11 = .ok (.ifCond .eq 15, 3) := by decide +kernel
theorem d_Mo_isNothing_14 : decode b_Mo_isNothing 14 = .ok (.aload_n 0, 1) := by decide +kernel
theorem d_Mo_isNothing_15 : decode b_Mo_isNothing 15 = .ok (.iload_n 2, 1) := by decide +kernel
theorem d_Mo_isNothing_16 : decode b_Mo_isNothing 16 = .ok (.laload, 1) := by decide +kernel
theorem d_Mo_isNothing_17 : decode b_Mo_isNothing 17 = .ok (.lconst 0, 1) := by decide +kernel
theorem d_Mo_isNothing_18 : decode b_Mo_isNothing 18 = .ok (.lcmp, 1) := by decide +kernel
theorem d_Mo_isNothing_19 : decode b_Mo_isNothing 19 = .ok (.ifCond .ne 7, 3) := by decide +kernel
theorem d_Mo_isNothing_22 : decode b_Mo_isNothing 22 = .ok (.iconst 1, 1) := by decide +kernel
theorem d_Mo_isNothing_23 : decode b_Mo_isNothing 23 = .ok (.goto 4, 3) := by decide +kernel
theorem d_Mo_isNothing_26 : decode b_Mo_isNothing 26 = .ok (.iconst 0, 1) := by decide +kernel
theorem d_Mo_isNothing_27 : decode b_Mo_isNothing 27 = .ok (.istore_n 1, 1) := by decide +kernel
theorem d_Mo_isNothing_28 : decode b_Mo_isNothing 28 = .ok (.iinc 2 1, 3) := by decide +kernel
theorem d_Mo_isNothing_31 : decode b_Mo_isNothing 31 = .ok (.goto (-27), 3) := by decide +kernel
theorem d_Mo_isNothing_34 : decode b_Mo_isNothing 34 = .ok (.iload_n 1, 1) := by decide +kernel
theorem d_Mo_isNothing_35 : decode b_Mo_isNothing 35 = .ok (.ireturn, 1) := by decide +kernel
theorem d_Mo_multiply_0 : decode b_Mo_multiply 0 = .ok (.iconst 0, 1) := by decide +kernel
theorem d_Mo_multiply_1 : decode b_Mo_multiply 1 = .ok (.istore 5, 2) := by decide +kernel
theorem d_Mo_multiply_3 : decode b_Mo_multiply 3 = .ok (.iload 5, 2) := by decide +kernel
theorem d_Mo_multiply_5 : decode b_Mo_multiply 5 = .ok (.bipush 17, 2) := by decide +kernel
theorem d_Mo_multiply_7 : decode b_Mo_multiply 7 = .ok (.if_icmp .ge 17, 3) := by decide +kernel
theorem d_Mo_multiply_10 : decode b_Mo_multiply 10 = .ok (.aload_n 0, 1) := by decide +kernel
theorem d_Mo_multiply_11 : decode b_Mo_multiply 11 = .ok (.getfield 60, 3) := by decide +kernel
theorem d_Mo_multiply_14 : decode b_Mo_multiply 14 = .ok (.iload 5, 2) := by decide +kernel
theorem d_Mo_multiply_16 : decode b_Mo_multiply 16 = .ok (.lconst 0, 1) := by decide +kernel
theorem d_Mo_multiply_17 : decode b_Mo_multiply 17 = .ok (.lastore, 1) := by decide +kernel
theorem d_Mo_multiply_18 : decode b_Mo_multiply 18 = .ok (.iinc 5 1, 3) := by decide +kernel
theorem d_Mo_multiply_21 : decode b_Mo_multiply 21 = .ok (.goto (-18), 3) := by decide +kernel
theorem d_Mo_multiply_24 : decode b_Mo_multiply 24 = .ok (.iconst 0, 1) := by decide +kernel
theorem d_Mo_multiply_25 : decode b_Mo_multiply 25 = .ok (.istore 5, 2) := by decide +kernel
theorem d_Mo_multiply_27 : decode b_Mo_multiply 27 = .ok (.iload 5, 2) := by decide +kernel
theorem d_Mo_multiply_29 : decode b_Mo_multiply 29 = .ok (.bipush 8, 2) := by decide +kernel
theorem d_Mo_multiply_31 : decode b_Mo_multiply 31 = .ok (.if_icmp .ge 94, 3) := by decide +kernel
theorem d_Mo_multiply_34 : decode b_Mo_multiply 34 = .ok (.lconst 0, 1) := by decide +kernel
theorem d_Mo_multiply_35 : decode b_Mo_multiply 35 = .ok (.lstore 6, 2) := by decide +kernel
theorem d_Mo_multiply_37 : decode b_Mo_multiply 37 = .ok (.iconst 0, 1) := by decide +kernel
theorem d_Mo_multiply_38 : decode b_Mo_multiply 38 = .ok (.istore 8, 2) := by decide +kernel
theorem d_Mo_multiply_40 : decode b_Mo_multiply 40 = .ok (.iload 8, 2) := by decide +kernel
theorem d_Mo_multiply_42 : decode b_Mo_multiply 42 = .ok (.bipush 8, 2) := by decide +kernel
theorem d_Mo_multiply_44 : decode b_Mo_multiply 44 = .ok (.if_icmp .ge 63, 3) := by decide +kernel
theorem d_Mo_multiply_47 : decode b_Mo_multiply 47 = .ok (.lload 6, 2) := by decide +kernel
theorem d_Mo_multiply_49 : decode b_Mo_multiply 49 = .ok (.aload_n 0, 1) := by decide +kernel
theorem d_Mo_multiply_50 : decode b_Mo_multiply 50 = .ok (.getfield 60, 3) := by decide +kernel
theorem d_Mo_multiply_53 : decode b_Mo_multiply 53 = .ok (.iload 5, 2) := by decide +kernel
theorem d_Mo_multiply_55 : decode b_Mo_multiply 55 = .ok (.iload 8, 2) := by decide +kernel
theorem d_Mo_multiply_57 : decode b_Mo_multiply 57 = .ok (.iadd, 1) := by decide +kernel
theorem d_Mo_multiply_58 : decode b_Mo_multiply 58 = .ok (.laload, 1) := by decide +kernel
theorem d_Mo_multiply_59 : decode b_Mo_multiply 59 = .ok (.ladd, 1) := by decide +kernel
theorem d_Mo_multiply_60 : decode b_Mo_multiply 60 = .ok (.aload_n 1, 1) := by decide +kernel
theorem d_Mo_multiply_61 : decode b_Mo_multiply 61 = .ok (.iload_n 2, 1) := by decide +kernel
theorem d_Mo_multiply_62 : decode b_Mo_multiply 62 = .ok (.iload 5, 2) := by decide +kernel
theorem d_Mo_multiply_64 : decode b_Mo_multiply 64 = .ok (.iadd, 1) := by decide +kernel
theorem d_Mo_multiply_65 : decode b_Mo_multiply 65 = .ok (.laload, 1) := by decide +kernel
theorem d_Mo_multiply_66 : decode b_Mo_multiply 66 = .ok (.aload_n 3, 1) := by decide +kernel
theorem d_Mo_multiply_67 : decode b_Mo_multiply 67 = .ok (.iload 4, 2) := by decide +kernel
theorem d_Mo_multiply_69 : decode b_Mo_multiply 69 = .ok (.iload 8, 2) := by decide +kernel
theorem d_Mo_multiply_71 : decode b_Mo_multiply 71 = .ok (.iadd, 1) := by decide +kernel
theorem d_Mo_multiply_72 : decode b_Mo_multiply 72 = .ok (.laload, 1) := by decide +kernel
theorem d_Mo_multiply_73 : decode b_Mo_multiply 73 = .ok (.lmul, 1) := by decide +kernel
theorem d_Mo_multiply_74 : decode b_Mo_multiply 74 = .ok (.ladd, 1) := by decide +kernel
theorem d_Mo_multiply_75 : decode b_Mo_multiply 75 = .ok (.lstore 6, 2) := by decide +kernel
theorem d_Mo_multiply_77 : decode b_Mo_multiply 77 = .ok (.aload_n 0, 1) := by decide +kernel
theorem d_Mo_multiply_78 : decode b_Mo_multiply 78 = .ok (.getfield 60, 3) := by decide +kernel
theorem d_Mo_multiply_81 : decode b_Mo_multiply 81 = .ok (.iload 5, 2) := by decide +kernel
theorem d_Mo_multiply_83 : decode b_Mo_multiply 83 = .ok (.iload 8, 2) := by decide +kernel
theorem d_Mo_multiply_85 : decode b_Mo_multiply 85 = .ok (.iadd, 1) := by decide +kernel
theorem d_Mo_multiply_86 : decode b_Mo_multiply 86 = .ok (.lload 6, 2) := by decide +kernel
theorem d_Mo_multiply_88 : decode b_Mo_multiply 88 = .ok (.ldc2_w 137, 3) := by decide +kernel
theorem d_Mo_multiply_91 : decode b_Mo_multiply 91 = .ok (.lrem, 1) := by decide +kernel
theorem d_Mo_multiply_92 : decode b_Mo_multiply 92 = .ok (.lastore, 1) := by decide +kernel
theorem d_Mo_multiply_93 : decode b_Mo_multiply 93 = .ok (.lload 6, 2) := by decide +kernel
theorem d_Mo_multiply_95 : decode b_Mo_multiply 95 = .ok (.ldc2_w 137, 3) := by decide +kernel
theorem d_Mo_multiply_98 : decode b_Mo_multiply 98 = .ok (.ldiv, 1) := by decide +kernel
theorem d_Mo_multiply_99 : decode b_Mo_multiply 99 = .ok (.lstore 6, 2) := by decide +kernel
theorem d_Mo_multiply_101 : decode b_Mo_multiply 101 = .ok (.iinc 8 1, 3) := by decide +kernel
theorem d_Mo_multiply_104 : decode b_Mo_multiply 104 = .ok (.goto (-64), 3) := by decide +kernel
theorem d_Mo_multiply_107 : decode b_Mo_multiply 107 = .ok (.aload_n 0, 1) := by decide +kernel
theorem d_Mo_multiply_108 : decode b_Mo_multiply 108 = .ok (.getfield 60, 3) := by decide +kernel
theorem d_Mo_multiply_111 : decode b_Mo_multiply 111 = .ok (.iload 5, 2) := by decide +kernel
theorem d_Mo_multiply_113 : decode b_Mo_multiply 113 = .ok (.bipush 8, 2) := by decide +kernel
theorem d_Mo_multiply_115 : decode b_Mo_multiply 115 = .ok (.iadd, 1) := by decide +kernel
theorem d_Mo_multiply_116 : decode b_Mo_multiply 116 = .ok (.lload 6, 2) := by decide +kernel
theorem d_Mo_multiply_118 : decode b_Mo_multiply 118 = .ok (.lastore, 1) := by decide +kernel
theorem d_Mo_multiply_119 : decode b_Mo_multiply 119 = .ok (.iinc 5 1, 3) := by decide +kernel
theorem d_Mo_multiply_122 : decode b_Mo_multiply 122 = .ok (.goto (-95), 3) := by decide +kernel
theorem d_Mo_multiply_125 : decode b_Mo_multiply 125 = .ok (.return_, 1) := by decide +kernel
theorem d_Mo_bitsOf_0 : decode b_Mo_bitsOf 0 = .ok (.iconst 0, 1) := by decide +kernel
theorem d_Mo_bitsOf_1 : decode b_Mo_bitsOf 1 = .ok (.istore_n 1, 1) := by decide +kernel
theorem d_Mo_bitsOf_2 : decode b_Mo_bitsOf 2 = .ok (.iconst 0, 1) := by decide +kernel
theorem d_Mo_bitsOf_3 : decode b_Mo_bitsOf 3 = .ok (.istore_n 2, 1) := by decide +kernel
theorem d_Mo_bitsOf_4 : decode b_Mo_bitsOf 4 = .ok (.iload_n 2, 1) := by decide +kernel
theorem d_Mo_bitsOf_5 : decode b_Mo_bitsOf 5 = .ok (.bipush 6, 2) := by decide +kernel
theorem d_Mo_bitsOf_7 : decode b_Mo_bitsOf 7 = .ok (.if_icmp .ge 17, 3) := by decide +kernel
theorem d_Mo_bitsOf_10 : decode b_Mo_bitsOf 10 = .ok (.iload_n 1, 1) := by decide +kernel
theorem d_Mo_bitsOf_11 : decode b_Mo_bitsOf 11 = .ok (.iload_n 0, 1) := by decide +kernel
theorem d_Mo_bitsOf_12 : decode b_Mo_bitsOf 12 = .ok (.iload_n 2, 1) := by decide +kernel
theorem d_Mo_bitsOf_13 : decode b_Mo_bitsOf 13 = .ok (.ishr, 1) := by decide +kernel
theorem d_Mo_bitsOf_14 : decode b_Mo_bitsOf 14 = .ok (.iconst 1, 1) := by decide +kernel
theorem d_Mo_bitsOf_15 : decode b_Mo_bitsOf 15 = .ok (.iand, 1) := by decide +kernel
theorem d_Mo_bitsOf_16 : decode b_Mo_bitsOf 16 = .ok (.iadd, 1) := by decide +kernel
theorem d_Mo_bitsOf_17 : decode b_Mo_bitsOf 17 = .ok (.istore_n 1, 1) := by decide +kernel
theorem d_Mo_bitsOf_18 : decode b_Mo_bitsOf 18 = .ok (.iinc 2 1, 3) := by decide +kernel
theorem d_Mo_bitsOf_21 : decode b_Mo_bitsOf 21 = .ok (.goto (-17), 3) := by decide +kernel
theorem d_Mo_bitsOf_24 : decode b_Mo_bitsOf 24 = .ok (.iload_n 1, 1) := by decide +kernel
theorem d_Mo_bitsOf_25 : decode b_Mo_bitsOf 25 = .ok (.ireturn, 1) := by decide +kernel
theorem d_Mo_reckonChanges_0 : decode b_Mo_reckonChanges 0 = .ok (.iconst 0, 1) := by decide +kernel
theorem d_Mo_reckonChanges_1 : decode b_Mo_reckonChanges 1 = .ok (.istore_n 2, 1) := by decide +kernel
theorem d_Mo_reckonChanges_2 : decode b_Mo_reckonChanges 2 = .ok (.iload_n 2, 1) := by decide +kernel
theorem d_Mo_reckonChanges_3 : decode b_Mo_reckonChanges 3 = .ok (.iconst 2, 1) := by decide +kernel
theorem d_Mo_reckonChanges_4 : decode b_Mo_reckonChanges 4 = .ok (.aload_n 0, 1) := by decide +kernel
theorem d_Mo_reckonChanges_5 : decode b_Mo_reckonChanges 5 = .ok (.getfield 86, 3) := by decide +kernel
theorem d_Mo_reckonChanges_8 : decode b_Mo_reckonChanges 8 = .ok (.imul, 1) := by decide +kernel
theorem d_Mo_reckonChanges_9 : decode b_Mo_reckonChanges 9 = .ok (.if_icmp .gt 71, 3) := by decide +kernel
theorem d_Mo_reckonChanges_12 : decode b_Mo_reckonChanges 12 = .ok (.aload_n 0, 1) := by decide +kernel
theorem d_Mo_reckonChanges_13 : decode b_Mo_reckonChanges 13 = .ok (.getfield 63, 3) := by decide +kernel
theorem d_Mo_reckonChanges_16 : decode b_Mo_reckonChanges 16 = .ok (.iload_n 2, 1) := by decide +kernel
theorem d_Mo_reckonChanges_17 : decode b_Mo_reckonChanges 17 = .ok (.lconst 1, 1) := by decide +kernel
theorem d_Mo_reckonChanges_18 : decode b_Mo_reckonChanges 18 = .ok (.lastore, 1) := by decide +kernel
theorem d_Mo_reckonChanges_19 : decode b_Mo_reckonChanges 19 = .ok (.iconst 0, 1) := by decide +kernel
theorem d_Mo_reckonChanges_20 : decode b_Mo_reckonChanges 20 = .ok (.istore_n 3, 1) := by decide +kernel
theorem d_Mo_reckonChanges_21 : decode b_Mo_reckonChanges 21 = .ok (.iload_n 3, 1) := by decide +kernel
theorem d_Mo_reckonChanges_22 : decode b_Mo_reckonChanges 22 = .ok (.iconst 2, 1) := by decide +kernel
theorem d_Mo_reckonChanges_23 : decode b_Mo_reckonChanges 23 = .ok (.aload_n 0, 1) := by decide +kernel
theorem d_Mo_reckonChanges_24 : decode b_Mo_reckonChanges 24 = .ok (.getfield 86, 3) := by decide +kernel
theorem d_Mo_reckonChanges_27 : decode b_Mo_reckonChanges 27 = .ok (.imul, 1) := by decide +kernel
theorem d_Mo_reckonChanges_28 : decode b_Mo_reckonChanges 28 = .ok (.if_icmp .ge 46, 3) := by decide +kernel
theorem d_Mo_reckonChanges_31 : decode b_Mo_reckonChanges 31 = .ok (.aload_n 0, 1) := by decide +kernel
theorem d_Mo_reckonChanges_32 : decode b_Mo_reckonChanges 32 = .ok (.getfield 63, 3) := by decide +kernel
theorem d_Mo_reckonChanges_35 : decode b_Mo_reckonChanges 35 = .ok (.iload_n 2, 1) := by decide +kernel
theorem d_Mo_reckonChanges_36 : decode b_Mo_reckonChanges 36 = .ok (.aload_n 0, 1) := by decide +kernel
theorem d_Mo_reckonChanges_37 : decode b_Mo_reckonChanges 37 = .ok (.getfield 63, 3) := by decide +kernel
theorem d_Mo_reckonChanges_40 : decode b_Mo_reckonChanges 40 = .ok (.iload_n 2, 1) := by decide +kernel
theorem d_Mo_reckonChanges_41 : decode b_Mo_reckonChanges 41 = .ok (.laload, 1) := by decide +kernel
theorem d_Mo_reckonChanges_42 : decode b_Mo_reckonChanges 42 = .ok (.iload_n 3, 1) := by decide +kernel
theorem d_Mo_reckonChanges_43 : decode b_Mo_reckonChanges 43 = .ok (.iload_n 2, 1) := by decide +kernel
theorem d_Mo_reckonChanges_44 : decode b_Mo_reckonChanges 44 = .ok (.if_icmp .ge 12, 3) := by decide +kernel
theorem d_Mo_reckonChanges_47 : decode b_Mo_reckonChanges 47 = .ok (.aload_n 0, 1) := by decide +kernel
theorem d_Mo_reckonChanges_48 : decode b_Mo_reckonChanges 48 = .ok (.getfield 25, 3) := by decide +kernel
theorem d_Mo_reckonChanges_51 : decode b_Mo_reckonChanges 51 = .ok (.iload_n 1, 1) := by decide +kernel
theorem d_Mo_reckonChanges_52 : decode b_Mo_reckonChanges 52 = .ok (.iaload, 1) := by decide +kernel
theorem d_Mo_reckonChanges_53 : decode b_Mo_reckonChanges 53 = .ok (.goto 12, 3) := by decide +kernel
theorem d_Mo_reckonChanges_56 : decode b_Mo_reckonChanges 56 = .ok (.bipush 16, 2) := by decide +kernel
theorem d_Mo_reckonChanges_58 : decode b_Mo_reckonChanges 58 = .ok (.aload_n 0, 1) := by decide +kernel
theorem d_Mo_reckonChanges_59 : decode b_Mo_reckonChanges 59 = .ok (.getfield 25, 3) := by decide +kernel
theorem d_Mo_reckonChanges_62 : decode b_Mo_reckonChanges 62 = .ok (.iload_n 1, 1) := by decide +kernel
theorem d_Mo_reckonChanges_63 : decode b_Mo_reckonChanges 63 = .ok (.iaload, 1) := by decide +kernel
theorem d_Mo_reckonChanges_64 : decode b_Mo_reckonChanges 64 = .ok (.isub, 1) := by decide +kernel
theorem d_Mo_reckonChanges_65 : decode b_Mo_reckonChanges 65 = .ok (.i2l, 1) := by decide +kernel
theorem d_Mo_reckonChanges_66 : decode b_Mo_reckonChanges 66 = .ok (.lmul, 1) := by decide +kernel
theorem d_Mo_reckonChanges_67 : decode b_Mo_reckonChanges 67 = .ok (.lastore, 1) := by decide +kernel
theorem d_Mo_reckonChanges_68 : decode b_Mo_reckonChanges 68 = .ok (.iinc 3 1, 3) := by decide +kernel
theorem d_Mo_reckonChanges_71 : decode b_Mo_reckonChanges 71 = .ok (.goto (-50), 3) := by decide +kernel
theorem d_Mo_reckonChanges_74 : decode b_Mo_reckonChanges 74 = .ok (.iinc 2 1, 3) := by decide +kernel
theorem d_Mo_reckonChanges_77 : decode b_Mo_reckonChanges 77 = .ok (.goto (-75), 3) := by decide +kernel
theorem d_Mo_reckonChanges_80 : decode b_Mo_reckonChanges 80 = .ok (.return_, 1) := by decide +kernel
