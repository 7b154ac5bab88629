theorem d_Mo_useRates_0 : decode b_Mo_useRates 0 = .ok (.iconst 0, 1) := by decide +kernel
theorem d_Mo_useRates_1 : decode b_Mo_useRates 1 = .ok (.istore_n 1, 1) := by decide +kernel
theorem d_Mo_useRates_2 : decode b_Mo_useRates 2 = .ok (.iload_n 1, 1) := by decide +kernel
theorem d_Mo_useRates_3 : decode b_Mo_useRates 3 = .ok (.iconst 4, 1) := by decide +kernel
theorem d_Mo_useRates_4 : decode b_Mo_useRates 4 = .ok (.if_icmp .ge 21, 3) := by decide +kernel
theorem d_Mo_useRates_7 : decode b_Mo_useRates 7 = .ok (.aload_n 0, 1) := by decide +kernel
theorem d_Mo_useRates_8 : decode b_Mo_useRates 8 = .ok (.getfield 25, 3) := by decide +kernel
theorem d_Mo_useRates_11 : decode b_Mo_useRates 11 = .ok (.iload_n 1, 1) := by decide +kernel
theorem d_Mo_useRates_12 : decode b_Mo_useRates 12 = .ok (.aload_n 0, 1) := by decide +kernel
theorem d_Mo_useRates_13 : decode b_Mo_useRates 13 = .ok (.getfield 22, 3) := by decide +kernel
theorem d_Mo_useRates_16 : decode b_Mo_useRates 16 = .ok (.iload_n 1, 1) := by decide +kernel
theorem d_Mo_useRates_17 : decode b_Mo_useRates 17 = .ok (.iaload, 1) := by decide +kernel
theorem d_Mo_useRates_18 : decode b_Mo_useRates 18 = .ok (.iastore, 1) := by decide +kernel
theorem d_Mo_useRates_19 : decode b_Mo_useRates 19 = .ok (.iinc 1 1, 3) := by decide +kernel
theorem d_Mo_useRates_22 : decode b_Mo_useRates 22 = .ok (.goto (-20), 3) := by decide +kernel
theorem d_Mo_useRates_25 : decode b_Mo_useRates 25 = .ok (.return_, 1) := by decide +kernel
theorem d_Mo_reckonBefore_0 : decode b_Mo_reckonBefore 0 = .ok (.aload_n 0, 1) := by decide +kernel
theorem d_Mo_reckonBefore_1 : decode b_Mo_reckonBefore 1 = .ok (.invokevirtual 115, 3) := by decide +kernel
theorem d_Mo_reckonBefore_4 : decode b_Mo_reckonBefore 4 = .ok (.istore_n 1, 1) := by decide +kernel
theorem d_Mo_reckonBefore_5 : decode b_Mo_reckonBefore 5 = .ok (.iconst 0, 1) := by decide +kernel
theorem d_Mo_reckonBefore_6 : decode b_Mo_reckonBefore 6 = .ok (.istore_n 2, 1) := by decide +kernel
theorem d_Mo_reckonBefore_7 : decode b_Mo_reckonBefore 7 = .ok (.iload_n 2, 1) := by decide +kernel
theorem d_Mo_reckonBefore_8 : decode b_Mo_reckonBefore 8 = .ok (.aload_n 0, 1) := by decide +kernel
theorem d_Mo_reckonBefore_9 : decode b_Mo_reckonBefore 9 = .ok (.getfield 83, 3) := by decide +kernel
theorem d_Mo_reckonBefore_12 : decode b_Mo_reckonBefore 12 = .ok (.if_icmp .ge 142, 3) := by decide +kernel
theorem d_Mo_reckonBefore_15 : decode b_Mo_reckonBefore 15 = .ok (.aload_n 0, 1) := by decide +kernel
theorem d_Mo_reckonBefore_16 : decode b_Mo_reckonBefore 16 = .ok (.iload_n 2, 1) := by decide +kernel
theorem d_Mo_reckonBefore_17 : decode b_Mo_reckonBefore 17 = .ok (.ifCond .ne 7, 3) := by decide +kernel
theorem d_Mo_reckonBefore_20 : decode b_Mo_reckonBefore 20 = .ok (.iconst 0, 1) := by decide +kernel
theorem d_Mo_reckonBefore_21 : decode b_Mo_reckonBefore 21 = .ok (.goto 6, 3) := by decide +kernel
theorem d_Mo_reckonBefore_24 : decode b_Mo_reckonBefore 24 = .ok (.iload_n 2, 1) := by decide +kernel
theorem d_Mo_reckonBefore_25 : decode b_Mo_reckonBefore 25 = .ok (.iconst 1, 1) := by decide +kernel
theorem d_Mo_reckonBefore_26 : decode b_Mo_reckonBefore 26 = .ok (.isub, 1) := by decide +kernel
theorem d_Mo_reckonBefore_27 : decode b_Mo_reckonBefore 27 = .ok (.invokevirtual 151, 3) := by decide +kernel
theorem d_Mo_reckonBefore_30 : decode b_Mo_reckonBefore 30 = .ok (.iconst 0, 1) := by decide +kernel
theorem d_Mo_reckonBefore_31 : decode b_Mo_reckonBefore 31 = .ok (.istore_n 3, 1) := by decide +kernel
theorem d_Mo_reckonBefore_32 : decode b_Mo_reckonBefore 32 = .ok (.iload_n 3, 1) := by decide +kernel
theorem d_Mo_reckonBefore_33 : decode b_Mo_reckonBefore 33 = .ok (.iload_n 1, 1) := by decide +kernel
theorem d_Mo_reckonBefore_34 : decode b_Mo_reckonBefore 34 = .ok (.if_icmp .ge 114, 3) := by decide +kernel
theorem d_Mo_reckonBefore_37 : decode b_Mo_reckonBefore 37 = .ok (.bipush 8, 2) := by decide +kernel
theorem d_Mo_reckonBefore_39 : decode b_Mo_reckonBefore 39 = .ok (.bipush 64, 2) := by decide +kernel
theorem d_Mo_reckonBefore_41 : decode b_Mo_reckonBefore 41 = .ok (.iload_n 2, 1) := by decide +kernel
theorem d_Mo_reckonBefore_42 : decode b_Mo_reckonBefore 42 = .ok (.imul, 1) := by decide +kernel
theorem d_Mo_reckonBefore_43 : decode b_Mo_reckonBefore 43 = .ok (.iload_n 3, 1) := by decide +kernel
theorem d_Mo_reckonBefore_44 : decode b_Mo_reckonBefore 44 = .ok (.iadd, 1) := by decide +kernel
theorem d_Mo_reckonBefore_45 : decode b_Mo_reckonBefore 45 = .ok (.imul, 1) := by decide +kernel
theorem d_Mo_reckonBefore_46 : decode b_Mo_reckonBefore 46 = .ok (.istore 4, 2) := by decide +kernel
theorem d_Mo_reckonBefore_48 : decode b_Mo_reckonBefore 48 = .ok (.aload_n 0, 1) := by decide +kernel
theorem d_Mo_reckonBefore_49 : decode b_Mo_reckonBefore 49 = .ok (.getfield 41, 3) := by decide +kernel
theorem d_Mo_reckonBefore_52 : decode b_Mo_reckonBefore 52 = .ok (.iload 4, 2) := by decide +kernel
theorem d_Mo_reckonBefore_54 : decode b_Mo_reckonBefore 54 = .ok (.invokestatic 139, 3) := by decide +kernel
theorem d_Mo_reckonBefore_57 : decode b_Mo_reckonBefore 57 = .ok (.iload_n 2, 1) := by decide +kernel
theorem d_Mo_reckonBefore_58 : decode b_Mo_reckonBefore 58 = .ok (.ifCond .ne 14, 3) := by decide +kernel
theorem d_Mo_reckonBefore_61 : decode b_Mo_reckonBefore 61 = .ok (.aload_n 0, 1) := by decide +kernel
theorem d_Mo_reckonBefore_62 : decode b_Mo_reckonBefore 62 = .ok (.getfield 41, 3) := by decide +kernel
theorem d_Mo_reckonBefore_65 : decode b_Mo_reckonBefore 65 = .ok (.iload 4, 2) := by decide +kernel
theorem d_Mo_reckonBefore_67 : decode b_Mo_reckonBefore 67 = .ok (.lconst 1, 1) := by decide +kernel
theorem d_Mo_reckonBefore_68 : decode b_Mo_reckonBefore 68 = .ok (.lastore, 1) := by decide +kernel
theorem d_Mo_reckonBefore_69 : decode b_Mo_reckonBefore 69 = .ok (.goto 57, 3) := by decide +kernel
theorem d_Mo_reckonBefore_72 : decode b_Mo_reckonBefore 72 = .ok (.iconst 0, 1) := by decide +kernel
theorem d_Mo_reckonBefore_73 : decode b_Mo_reckonBefore 73 = .ok (.istore 5, 2) := by decide +kernel
theorem d_Mo_reckonBefore_75 : decode b_Mo_reckonBefore 75 = .ok (.iload 5, 2) := by decide +kernel
theorem d_Mo_reckonBefore_77 : decode b_Mo_reckonBefore 77 = .ok (.iload_n 1, 1) := by decide +kernel
theorem d_Mo_reckonBefore_78 : decode b_Mo_reckonBefore 78 = .ok (.if_icmp .ge 48, 3) := by decide +kernel
theorem d_Mo_reckonBefore_81 : decode b_Mo_reckonBefore 81 = .ok (.aload_n 0, 1) := by decide +kernel
theorem d_Mo_reckonBefore_82 : decode b_Mo_reckonBefore 82 = .ok (.getfield 41, 3) := by decide +kernel
theorem d_Mo_reckonBefore_85 : decode b_Mo_reckonBefore 85 = .ok (.iload 4, 2) := by decide +kernel
theorem d_Mo_reckonBefore_87 : decode b_Mo_reckonBefore 87 = .ok (.aload_n 0, 1) := by decide +kernel
theorem d_Mo_reckonBefore_88 : decode b_Mo_reckonBefore 88 = .ok (.getfield 41, 3) := by decide +kernel
theorem d_Mo_reckonBefore_91 : decode b_Mo_reckonBefore 91 = .ok (.bipush 8, 2) := by decide +kernel
theorem d_Mo_reckonBefore_93 : decode b_Mo_reckonBefore 93 = .ok (.bipush 64, 2) := by decide +kernel
theorem d_Mo_reckonBefore_95 : decode b_Mo_reckonBefore 95 = .ok (.iload_n 2, 1) := by decide +kernel
theorem d_Mo_reckonBefore_96 : decode b_Mo_reckonBefore 96 = .ok (.iconst 1, 1) := by decide +kernel
theorem d_Mo_reckonBefore_97 : decode b_Mo_reckonBefore 97 = .ok (.isub, 1) := by decide +kernel
theorem d_Mo_reckonBefore_98 : decode b_Mo_reckonBefore 98 = .ok (.imul, 1) := by decide +kernel
theorem d_Mo_reckonBefore_99 : decode b_Mo_reckonBefore 99 = .ok (.iload 5, 2) := by decide +kernel
theorem d_Mo_reckonBefore_101 : decode b_Mo_reckonBefore 101 = .ok (.iadd, 1) := by decide +kernel
theorem d_Mo_reckonBefore_102 : decode b_Mo_reckonBefore 102 = .ok (.imul, 1) := by decide +kernel
theorem d_Mo_reckonBefore_103 : decode b_Mo_reckonBefore 103 = .ok (.aload_n 0, 1) := by decide +kernel
theorem d_Mo_reckonBefore_104 : decode b_Mo_reckonBefore 104 = .ok (.getfield 63, 3) := by decide +kernel
theorem d_Mo_reckonBefore_107 : decode b_Mo_reckonBefore 107 = .ok (.aload_n 0, 1) := by decide +kernel
theorem d_Mo_reckonBefore_108 : decode b_Mo_reckonBefore 108 = .ok (.getfield 66, 3) := by decide +kernel
theorem d_Mo_reckonBefore_111 : decode b_Mo_reckonBefore 111 = .ok (.iload 5, 2) := by decide +kernel
theorem d_Mo_reckonBefore_113 : decode b_Mo_reckonBefore 113 = .ok (.iload_n 3, 1) := by decide +kernel
theorem d_Mo_reckonBefore_114 : decode b_Mo_reckonBefore 114 = .ok (.ixor, 1) := by decide +kernel
theorem d_Mo_reckonBefore_115 : decode b_Mo_reckonBefore 115 = .ok (.iaload, 1) := by decide +kernel
theorem d_Mo_reckonBefore_116 : decode b_Mo_reckonBefore 116 = .ok (.laload, 1) := by decide +kernel
theorem d_Mo_reckonBefore_117 : decode b_Mo_reckonBefore 117 = .ok (.invokestatic 143, 3) := by decide +kernel
theorem d_Mo_reckonBefore_120 : decode b_Mo_reckonBefore 120 = .ok (.iinc 5 1, 3) := by decide +kernel
theorem d_Mo_reckonBefore_123 : decode b_Mo_reckonBefore 123 = .ok (.goto (-48), 3) := by decide +kernel
theorem d_Mo_reckonBefore_126 : decode b_Mo_reckonBefore 126 = .ok (.aload_n 0, 1) := by decide +kernel
theorem d_Mo_reckonBefore_127 : decode b_Mo_reckonBefore 127 = .ok (.getfield 41, 3) := by decide +kernel
theorem d_Mo_reckonBefore_130 : decode b_Mo_reckonBefore 130 = .ok (.iload 4, 2) := by decide +kernel
theorem d_Mo_reckonBefore_132 : decode b_Mo_reckonBefore 132 = .ok (.aload_n 0, 1) := by decide +kernel
theorem d_Mo_reckonBefore_133 : decode b_Mo_reckonBefore 133 = .ok (.iload_n 2, 1) := by decide +kernel
theorem d_Mo_reckonBefore_134 : decode b_Mo_reckonBefore 134 = .ok (.iload_n 3, 1) := by decide +kernel
theorem d_Mo_reckonBefore_135 : decode b_Mo_reckonBefore 135 = .ok (.invokevirtual 134, 3) := by decide +kernel
theorem d_Mo_reckonBefore_138 : decode b_Mo_reckonBefore 138 = .ok (.i2l, 1) := by decide +kernel
theorem d_Mo_reckonBefore_139 : decode b_Mo_reckonBefore 139 = .ok (.invokestatic 155, 3) := by decide +kernel
theorem d_Mo_reckonBefore_142 : decode b_Mo_reckonBefore 142 = .ok (.iinc 3 1, 3) := by decide +kernel
theorem d_Mo_reckonBefore_145 : decode b_Mo_reckonBefore 145 = .ok (.goto (-113), 3) := by decide +kernel
theorem d_Mo_reckonBefore_148 : decode b_Mo_reckonBefore 148 = .ok (.iinc 2 1, 3) := by decide +kernel
theorem d_Mo_reckonBefore_151 : decode b_Mo_reckonBefore 151 = .ok (.goto (-144), 3) := by decide +kernel
theorem d_Mo_reckonBefore_154 : decode b_Mo_reckonBefore 154 = .ok (.return_, 1) := by decide +kernel
theorem d_Mo_reckonBehind_0 : decode b_Mo_reckonBehind 0 = .ok (.aload_n 0, 1) := by decide +kernel
theorem d_Mo_reckonBehind_1 : decode b_Mo_reckonBehind 1 = .ok (.invokevirtual 115, 3) := by decide +kernel
theorem d_Mo_reckonBehind_4 : decode b_Mo_reckonBehind 4 = .ok (.istore_n 1, 1) := by decide +kernel
theorem d_Mo_reckonBehind_5 : decode b_Mo_reckonBehind 5 = .ok (.aload_n 0, 1) := by decide +kernel
theorem d_Mo_reckonBehind_6 : decode b_Mo_reckonBehind 6 = .ok (.getfield 83, 3) := by decide +kernel
theorem d_Mo_reckonBehind_9 : decode b_Mo_reckonBehind 9 = .ok (.iconst 1, 1) := by decide +kernel
theorem d_Mo_reckonBehind_10 : decode b_Mo_reckonBehind 10 = .ok (.isub, 1) := by decide +kernel
theorem d_Mo_reckonBehind_11 : decode b_Mo_reckonBehind 11 = .ok (.istore_n 2, 1) := by decide +kernel
theorem d_Mo_reckonBehind_12 : decode b_Mo_reckonBehind 12 = .ok (.iload_n 2, 1) := by decide +kernel
theorem d_Mo_reckonBehind_13 : decode b_Mo_reckonBehind 13 = .ok (.ifCond .lt 186, 3) := by decide +kernel
theorem d_Mo_reckonBehind_16 : decode b_Mo_reckonBehind 16 = .ok (.iconst 0, 1) := by decide +kernel
theorem d_Mo_reckonBehind_17 : decode b_Mo_reckonBehind 17 = .ok (.istore_n 3, 1) := by decide +kernel
theorem d_Mo_reckonBehind_18 : decode b_Mo_reckonBehind 18 = .ok (.iload_n 3, 1) := by decide +kernel
theorem d_Mo_reckonBehind_19 : decode b_Mo_reckonBehind 19 = .ok (.iload_n 1, 1) := by decide +kernel
theorem d_Mo_reckonBehind_20 : decode b_Mo_reckonBehind 20 = .ok (.if_icmp .ge 54, 3) := by decide +kernel
theorem d_Mo_reckonBehind_23 : decode b_Mo_reckonBehind 23 = .ok (.aload_n 0, 1) := by decide +kernel
theorem d_Mo_reckonBehind_24 : decode b_Mo_reckonBehind 24 = .ok (.getfield 45, 3) := by decide +kernel
theorem d_Mo_reckonBehind_27 : decode b_Mo_reckonBehind 27 = .ok (.bipush 8, 2) := by decide +kernel
theorem d_Mo_reckonBehind_29 : decode b_Mo_reckonBehind 29 = .ok (.bipush 64, 2) := by decide +kernel
theorem d_Mo_reckonBehind_31 : decode b_Mo_reckonBehind 31 = .ok (.iload_n 2, 1) := by decide +kernel
theorem d_Mo_reckonBehind_32 : decode b_Mo_reckonBehind 32 = .ok (.imul, 1) := by decide +kernel
theorem d_Mo_reckonBehind_33 : decode b_Mo_reckonBehind 33 = .ok (.iload_n 3, 1) := by decide +kernel
theorem d_Mo_reckonBehind_34 : decode b_Mo_reckonBehind 34 = .ok (.iadd, 1) := by decide +kernel
theorem d_Mo_reckonBehind_35 : decode b_Mo_reckonBehind 35 = .ok (.imul, 1) := by decide +kernel
theorem d_Mo_reckonBehind_36 : decode b_Mo_reckonBehind 36 = .ok (.invokestatic 139, 3) := by decide +kernel
theorem d_Mo_reckonBehind_39 : decode b_Mo_reckonBehind 39 = .ok (.aload_n 0, 1) := by decide +kernel
theorem d_Mo_reckonBehind_40 : decode b_Mo_reckonBehind 40 = .ok (.getfield 45, 3) := by decide +kernel
theorem d_Mo_reckonBehind_43 : decode b_Mo_reckonBehind 43 = .ok (.bipush 8, 2) := by decide +kernel
theorem d_Mo_reckonBehind_45 : decode b_Mo_reckonBehind 45 = .ok (.bipush 64, 2) := by decide +kernel
theorem d_Mo_reckonBehind_47 : decode b_Mo_reckonBehind 47 = .ok (.iload_n 2, 1) := by decide +kernel
theorem d_Mo_reckonBehind_48 : decode b_Mo_reckonBehind 48 = .ok (.imul, 1) := by decide +kernel
theorem d_Mo_reckonBehind_49 : decode b_Mo_reckonBehind 49 = .ok (.iload_n 3, 1) := by decide +kernel
theorem d_Mo_reckonBehind_50 : decode b_Mo_reckonBehind 50 = .ok (.iadd, 1) := by decide +kernel
theorem d_Mo_reckonBehind_51 : decode b_Mo_reckonBehind 51 = .ok (.imul, 1) := by decide +kernel
theorem d_Mo_reckonBehind_52 : decode b_Mo_reckonBehind 52 = .ok (.iload_n 2, 1) := by decide +kernel
theorem d_Mo_reckonBehind_53 : decode b_Mo_reckonBehind 53 = .ok (.aload_n 0, 1) := by decide +kernel
theorem d_Mo_reckonBehind_54 : decode b_Mo_reckonBehind 54 = .ok (.getfield 83, 3) := by decide +kernel
theorem d_Mo_reckonBehind_57 : decode b_Mo_reckonBehind 57 = .ok (.iconst 1, 1) := by decide +kernel
theorem d_Mo_reckonBehind_58 : decode b_Mo_reckonBehind 58 = .ok (.isub, 1) := by decide +kernel
theorem d_Mo_reckonBehind_59 : decode b_Mo_reckonBehind 59 = .ok (.if_icmp .ne 7, 3) := by decide +kernel
theorem d_Mo_reckonBehind_62 : decode b_Mo_reckonBehind 62 = .ok (.lconst 1, 1) := by decide +kernel
theorem d_Mo_reckonBehind_63 : decode b_Mo_reckonBehind 63 = .ok (.goto 4, 3) := by decide +kernel
theorem d_Mo_reckonBehind_66 : decode b_Mo_reckonBehind 66 = .ok (.lconst 0, 1) := by decide +kernel
theorem d_Mo_reckonBehind_67 : decode b_Mo_reckonBehind 67 = .ok (.lastore, 1) := by decide +kernel
theorem d_Mo_reckonBehind_68 : decode b_Mo_reckonBehind 68 = .ok (.iinc 3 1, 3) := by decide +kernel
theorem d_Mo_reckonBehind_71 : decode b_Mo_reckonBehind 71 = .ok (.goto (-53), 3) := by decide +kernel
theorem d_Mo_reckonBehind_74 : decode b_Mo_reckonBehind 74 = .ok (.aload_n 0, 1) := by decide +kernel
theorem d_Mo_reckonBehind_75 : decode b_Mo_reckonBehind 75 = .ok (.iload_n 2, 1) := by decide +kernel
theorem d_Mo_reckonBehind_76 : decode b_Mo_reckonBehind 76 = .ok (.invokevirtual 151, 3) := by decide +kernel
theorem d_Mo_reckonBehind_79 : decode b_Mo_reckonBehind 79 = .ok (.iconst 0, 1) := by decide +kernel
theorem d_Mo_reckonBehind_80 : decode b_Mo_reckonBehind 80 = .ok (.istore_n 3, 1) := by decide +kernel
theorem d_Mo_reckonBehind_81 : decode b_Mo_reckonBehind 81 = .ok (.iload_n 3, 1) := by decide +kernel
theorem d_Mo_reckonBehind_82 : decode b_Mo_reckonBehind 82 = .ok (.iload_n 1, 1) := by decide +kernel
theorem d_Mo_reckonBehind_83 : decode b_Mo_reckonBehind 83 = .ok (.if_icmp .ge 110, 3) := by decide +kernel
theorem d_Mo_reckonBehind_86 : decode b_Mo_reckonBehind 86 = .ok (.iload_n 2, 1) := by decide +kernel
theorem d_Mo_reckonBehind_87 : decode b_Mo_reckonBehind 87 = .ok (.aload_n 0, 1) := by decide +kernel
theorem d_Mo_reckonBehind_88 : decode b_Mo_reckonBehind 88 = .ok (.getfield 83, 3) := by decide +kernel
theorem d_Mo_reckonBehind_91 : decode b_Mo_reckonBehind 91 = .ok (.iconst 1, 1) := by decide +kernel
theorem d_Mo_reckonBehind_92 : decode b_Mo_reckonBehind 92 = .ok (.isub, 1) := by decide +kernel
theorem d_Mo_reckonBehind_93 : decode b_Mo_reckonBehind 93 = .ok (.if_icmp .ge 100, 3) := by decide +kernel
theorem d_Mo_reckonBehind_96 : decode b_Mo_reckonBehind 96 = .ok (.aload_n 0, 1) := by decide +kernel
theorem d_Mo_reckonBehind_97 : decode b_Mo_reckonBehind 97 = .ok (.getfield 54, 3) := by decide +kernel
theorem d_Mo_reckonBehind_100 : decode b_Mo_reckonBehind 100 = .ok (.iconst 0, 1) := by decide +kernel
theorem d_Mo_reckonBehind_101 : decode b_Mo_reckonBehind 101 = .ok (.invokestatic 139, 3) := by decide +kernel
theorem d_Mo_reckonBehind_104 : decode b_Mo_reckonBehind 104 = .ok (.aload_n 0, 1) := by decide +kernel
theorem d_Mo_reckonBehind_105 : decode b_Mo_reckonBehind 105 = .ok (.getfield 54, 3) := by decide +kernel
theorem d_Mo_reckonBehind_108 : decode b_Mo_reckonBehind 108 = .ok (.iconst 0, 1) := by decide +kernel
theorem d_Mo_reckonBehind_109 : decode b_Mo_reckonBehind 109 = .ok (.aload_n 0, 1) := by decide +kernel
theorem d_Mo_reckonBehind_110 : decode b_Mo_reckonBehind 110 = .ok (.getfield 45, 3) := by decide +kernel
theorem d_Mo_reckonBehind_113 : decode b_Mo_reckonBehind 113 = .ok (.bipush 8, 2) := by decide +kernel
theorem d_Mo_reckonBehind_115 : decode b_Mo_reckonBehind 115 = .ok (.bipush 64, 2) := by decide +kernel
theorem d_Mo_reckonBehind_117 : decode b_Mo_reckonBehind 117 = .ok (.iload_n 2, 1) := by decide +kernel
theorem d_Mo_reckonBehind_118 : decode b_Mo_reckonBehind 118 = .ok (.iconst 1, 1) := by decide +kernel
theorem d_Mo_reckonBehind_119 : decode b_Mo_reckonBehind 119 = .ok (.iadd, 1) := by decide +kernel
theorem d_Mo_reckonBehind_120 : decode b_Mo_reckonBehind 120 = .ok (.imul, 1) := by decide +kernel
theorem d_Mo_reckonBehind_121 : decode b_Mo_reckonBehind 121 = .ok (.iload_n 3, 1) := by decide +kernel
theorem d_Mo_reckonBehind_122 : decode b_Mo_reckonBehind 122 = .ok (.iadd, 1) := by decide +kernel
theorem d_Mo_reckonBehind_123 : decode b_Mo_reckonBehind 123 = .ok (.imul, 1) := by decide +kernel
theorem d_Mo_reckonBehind_124 : decode b_Mo_reckonBehind 124 = .ok (.aload_n 0, 1) := by decide +kernel
theorem d_Mo_reckonBehind_125 : decode b_Mo_reckonBehind 125 = .ok (.iload_n 2, 1) := by decide +kernel
theorem d_Mo_reckonBehind_126 : decode b_Mo_reckonBehind 126 = .ok (.iconst 1, 1) := by decide +kernel
theorem d_Mo_reckonBehind_127 : decode b_Mo_reckonBehind 127 = .ok (.iadd, 1) := by decide +kernel
theorem d_Mo_reckonBehind_128 : decode b_Mo_reckonBehind 128 = .ok (.iload_n 3, 1) := by decide +kernel
theorem d_Mo_reckonBehind_129 : decode b_Mo_reckonBehind 129 = .ok (.invokevirtual 134, 3) := by decide +kernel
theorem d_Mo_reckonBehind_132 : decode b_Mo_reckonBehind 132 = .ok (.i2l, 1) := by decide +kernel
theorem d_Mo_reckonBehind_133 : decode b_Mo_reckonBehind 133 = .ok (.invokestatic 143, 3) := by decide +kernel
theorem d_Mo_reckonBehind_136 : decode b_Mo_reckonBehind 136 = .ok (.iconst 0, 1) := by decide +kernel
theorem d_Mo_reckonBehind_137 : decode b_Mo_reckonBehind 137 = .ok (.istore 4, 2) := by decide +kernel
theorem d_Mo_reckonBehind_139 : decode b_Mo_reckonBehind 139 = .ok (.iload 4, 2) := by decide +kernel
theorem d_Mo_reckonBehind_141 : decode b_Mo_reckonBehind 141 = .ok (.iload_n 1, 1) := by decide +kernel
theorem d_Mo_reckonBehind_142 : decode b_Mo_reckonBehind 142 = .ok (.if_icmp .ge 45, 3) := by decide +kernel
theorem d_Mo_reckonBehind_145 : decode b_Mo_reckonBehind 145 = .ok (.aload_n 0, 1) := by decide +kernel
theorem d_Mo_reckonBehind_146 : decode b_Mo_reckonBehind 146 = .ok (.getfield 45, 3) := by decide +kernel
theorem d_Mo_reckonBehind_149 : decode b_Mo_reckonBehind 149 = .ok (.bipush 8, 2) := by decide +kernel
theorem d_Mo_reckonBehind_151 : decode b_Mo_reckonBehind 151 = .ok (.bipush 64, 2) := by decide +kernel
theorem d_Mo_reckonBehind_153 : decode b_Mo_reckonBehind 153 = .ok (.iload_n 2, 1) := by decide +kernel
theorem d_Mo_reckonBehind_154 : decode b_Mo_reckonBehind 154 = .ok (.imul, 1) := by decide +kernel
theorem d_Mo_reckonBehind_155 : decode b_Mo_reckonBehind 155 = .ok (.iload 4, 2) := by decide +kernel
theorem d_Mo_reckonBehind_157 : decode b_Mo_reckonBehind 157 = .ok (.iadd, 1) := by decide +kernel
theorem d_Mo_reckonBehind_158 : decode b_Mo_reckonBehind 158 = .ok (.imul, 1) := by decide +kernel
theorem d_Mo_reckonBehind_159 : decode b_Mo_reckonBehind 159 = .ok (.aload_n 0, 1) := by decide +kernel
theorem d_Mo_reckonBehind_160 : decode b_Mo_reckonBehind 160 = .ok (.getfield 54, 3) := by decide +kernel
theorem d_Mo_reckonBehind_163 : decode b_Mo_reckonBehind 163 = .ok (.iconst 0, 1) := by decide +kernel
theorem d_Mo_reckonBehind_164 : decode b_Mo_reckonBehind 164 = .ok (.aload_n 0, 1) := by decide +kernel
theorem d_Mo_reckonBehind_165 : decode b_Mo_reckonBehind 165 = .ok (.getfield 63, 3) := by decide +kernel
theorem d_Mo_reckonBehind_168 : decode b_Mo_reckonBehind 168 = .ok (.aload_n 0, 1) := by decide +kernel
theorem d_Mo_reckonBehind_169 : decode b_Mo_reckonBehind 169 = .ok (.getfield 66, 3) := by decide +kernel
theorem d_Mo_reckonBehind_172 : decode b_Mo_reckonBehind 172 = .ok (.iload_n 3, 1) := by decide +kernel
theorem d_Mo_reckonBehind_173 : decode b_Mo_reckonBehind 173 = .ok (.iload 4, 2) := by decide +kernel
theorem d_Mo_reckonBehind_175 : decode b_Mo_reckonBehind 175 = .ok (.ixor, 1) := by decide +kernel
theorem d_Mo_reckonBehind_176 : decode b_Mo_reckonBehind 176 = .ok (.iaload, 1) := by decide +kernel
theorem d_Mo_reckonBehind_177 : decode b_Mo_reckonBehind 177 = .ok (.laload, 1) := by decide +kernel
theorem d_Mo_reckonBehind_178 : decode b_Mo_reckonBehind 178 = .ok (.invokestatic 143, 3) := by decide +kernel
theorem d_Mo_reckonBehind_181 : decode b_Mo_reckonBehind 181 = .ok (.iinc 4 1, 3) := by decide +kernel
theorem d_Mo_reckonBehind_184 : decode b_Mo_reckonBehind 184 = .ok (.goto (-45), 3) := by decide +kernel
theorem d_Mo_reckonBehind_187 : decode b_Mo_reckonBehind 187 = .ok (.iinc 3 1, 3) := by decide +kernel
theorem d_Mo_reckonBehind_190 : decode b_Mo_reckonBehind 190 = .ok (.goto (-109), 3) := by decide +kernel
theorem d_Mo_reckonBehind_193 : decode b_Mo_reckonBehind 193 = .ok (.iinc 2 (-1), 3) := by decide +kernel
theorem d_Mo_reckonBehind_196 : decode b_Mo_reckonBehind 196 = .ok (.goto (-184), 3) := by decide +kernel
theorem d_Mo_reckonBehind_199 : decode b_Mo_reckonBehind 199 = .ok (.return_, 1) := by decide +kernel
