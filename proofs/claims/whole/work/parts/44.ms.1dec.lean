theorem d_Mo_isLetter_0 : decode b_Mo_isLetter 0 = .ok (.iload_n 0, 1) := by decide +kernel
theorem d_Mo_isLetter_1 : decode b_Mo_isLetter 1 = .ok (.iconst 1, 1) := by decide +kernel
theorem d_Mo_isLetter_2 : decode b_Mo_isLetter 2 = .ok (.if_icmp .lt 12, 3) := by decide +kernel
theorem d_Mo_isLetter_5 : decode b_Mo_isLetter 5 = .ok (.iload_n 0, 1) := by decide +kernel
theorem d_Mo_isLetter_6 : decode b_Mo_isLetter 6 = .ok (.iconst 3, 1) := by decide +kernel
theorem d_Mo_isLetter_7 : decode b_Mo_isLetter 7 = .ok (.if_icmp .gt 7, 3) := by decide +kernel
theorem d_Mo_isLetter_10 : decode b_Mo_isLetter 10 = .ok (.iconst 1, 1) := by decide +kernel
theorem d_Mo_isLetter_11 : decode b_Mo_isLetter 11 = .ok (.goto 4, 3) := by decide +kernel
theorem d_Mo_isLetter_14 : decode b_Mo_isLetter 14 = .ok (.iconst 0, 1) := by decide +kernel
theorem d_Mo_isLetter_15 : decode b_Mo_isLetter 15 = .ok (.ireturn, 1) := by decide +kernel
theorem d_Mo_founder_0 : decode b_Mo_founder 0 = .ok (.aload_n 0, 1) := by decide +kernel
theorem d_Mo_founder_1 : decode b_Mo_founder 1 = .ok (.aload_n 0, 1) := by decide +kernel
theorem d_Mo_founder_2 : decode b_Mo_founder 2 = .ok (.getfield 89, 3) := by decide +kernel
theorem d_Mo_founder_5 : decode b_Mo_founder 5 = .ok (.iconst 3, 1) := by decide +kernel
theorem d_Mo_founder_6 : decode b_Mo_founder 6 = .ok (.if_icmp .eq 10, 3) := by decide +kernel
theorem d_Mo_founder_9 : decode b_Mo_founder 9 = .ok (.aload_n 0, 1) := by decide +kernel
theorem d_Mo_founder_10 : decode b_Mo_founder 10 = .ok (.invokevirtual 92, 3) := by decide +kernel
theorem d_Mo_founder_13 : decode b_Mo_founder 13 = .ok (.ifCond .eq 7, 3) := by decide +kernel
theorem d_Mo_founder_16 : decode b_Mo_founder 16 = .ok (.iconst 1, 1) := by decide +kernel
theorem d_Mo_founder_17 : decode b_Mo_founder 17 = .ok (.goto 4, 3) := by decide +kernel
theorem d_Mo_founder_20 : decode b_Mo_founder 20 = .ok (.iconst 0, 1) := by decide +kernel
theorem d_Mo_founder_21 : decode b_Mo_founder 21 = .ok (.invokevirtual 96, 3) := by decide +kernel
theorem d_Mo_founder_24 : decode b_Mo_founder 24 = .ok (.ifCond .eq 5, 3) := by decide +kernel
theorem d_Mo_founder_27 : decode b_Mo_founder 27 = .ok (.iconst 0, 1) := by decide +kernel
theorem d_Mo_founder_28 : decode b_Mo_founder 28 = .ok (.ireturn, 1) := by decide +kernel
theorem d_Mo_founder_29 : decode b_Mo_founder 29 = .ok (.aload_n 0, 1) := by decide +kernel
theorem d_Mo_founder_30 : decode b_Mo_founder 30 = .ok (.getfield 7, 3) := by decide +kernel
theorem d_Mo_founder_33 : decode b_Mo_founder 33 = .ok (.aload_n 0, 1) := by decide +kernel
theorem d_Mo_founder_34 : decode b_Mo_founder 34 = .ok (.getfield 80, 3) := by decide +kernel
theorem d_Mo_founder_37 : decode b_Mo_founder 37 = .ok (.aload_n 0, 1) := by decide +kernel
theorem d_Mo_founder_38 : decode b_Mo_founder 38 = .ok (.getfield 89, 3) := by decide +kernel
theorem d_Mo_founder_41 : decode b_Mo_founder 41 = .ok (.iastore, 1) := by decide +kernel
theorem d_Mo_founder_42 : decode b_Mo_founder 42 = .ok (.aload_n 0, 1) := by decide +kernel
theorem d_Mo_founder_43 : decode b_Mo_founder 43 = .ok (.getfield 13, 3) := by decide +kernel
theorem d_Mo_founder_46 : decode b_Mo_founder 46 = .ok (.aload_n 0, 1) := by decide +kernel
theorem d_Mo_founder_47 : decode b_Mo_founder 47 = .ok (.getfield 80, 3) := by decide +kernel
theorem d_Mo_founder_50 : decode b_Mo_founder 50 = .ok (.iconst (-1), 1) := by decide +kernel
theorem d_Mo_founder_51 : decode b_Mo_founder 51 = .ok (.iastore, 1) := by decide +kernel
theorem d_Mo_founder_52 : decode b_Mo_founder 52 = .ok (.aload_n 0, 1) := by decide +kernel
theorem d_Mo_founder_53 : decode b_Mo_founder 53 = .ok (.getfield 16, 3) := by decide +kernel
theorem d_Mo_founder_56 : decode b_Mo_founder 56 = .ok (.aload_n 0, 1) := by decide +kernel
theorem d_Mo_founder_57 : decode b_Mo_founder 57 = .ok (.getfield 80, 3) := by decide +kernel
theorem d_Mo_founder_60 : decode b_Mo_founder 60 = .ok (.iconst (-1), 1) := by decide +kernel
theorem d_Mo_founder_61 : decode b_Mo_founder 61 = .ok (.iastore, 1) := by decide +kernel
theorem d_Mo_founder_62 : decode b_Mo_founder 62 = .ok (.aload_n 0, 1) := by decide +kernel
theorem d_Mo_founder_63 : decode b_Mo_founder 63 = .ok (.dup, 1) := by decide +kernel
theorem d_Mo_founder_64 : decode b_Mo_founder 64 = .ok (.getfield 89, 3) := by decide +kernel
theorem d_Mo_founder_67 : decode b_Mo_founder 67 = .ok (.iconst 1, 1) := by decide +kernel
theorem d_Mo_founder_68 : decode b_Mo_founder 68 = .ok (.iadd, 1) := by decide +kernel
theorem d_Mo_founder_69 : decode b_Mo_founder 69 = .ok (.putfield 89, 3) := by decide +kernel
theorem d_Mo_founder_72 : decode b_Mo_founder 72 = .ok (.aload_n 0, 1) := by decide +kernel
theorem d_Mo_founder_73 : decode b_Mo_founder 73 = .ok (.dup, 1) := by decide +kernel
theorem d_Mo_founder_74 : decode b_Mo_founder 74 = .ok (.getfield 80, 3) := by decide +kernel
theorem d_Mo_founder_77 : decode b_Mo_founder 77 = .ok (.iconst 1, 1) := by decide +kernel
theorem d_Mo_founder_78 : decode b_Mo_founder 78 = .ok (.iadd, 1) := by decide +kernel
theorem d_Mo_founder_79 : decode b_Mo_founder 79 = .ok (.putfield 80, 3) := by decide +kernel
theorem d_Mo_founder_82 : decode b_Mo_founder 82 = .ok (.aload_n 0, 1) := by decide +kernel
theorem d_Mo_founder_83 : decode b_Mo_founder 83 = .ok (.invokevirtual 100, 3) := by decide +kernel
theorem d_Mo_founder_86 : decode b_Mo_founder 86 = .ok (.aload_n 0, 1) := by decide +kernel
theorem d_Mo_founder_87 : decode b_Mo_founder 87 = .ok (.getfield 80, 3) := by decide +kernel
theorem d_Mo_founder_90 : decode b_Mo_founder 90 = .ok (.iconst 1, 1) := by decide +kernel
theorem d_Mo_founder_91 : decode b_Mo_founder 91 = .ok (.isub, 1) := by decide +kernel
theorem d_Mo_founder_92 : decode b_Mo_founder 92 = .ok (.ireturn, 1) := by decide +kernel
theorem d_Mo_child_0 : decode b_Mo_child 0 = .ok (.aload_n 0, 1) := by decide +kernel
theorem d_Mo_child_1 : decode b_Mo_child 1 = .ok (.aload_n 0, 1) := by decide +kernel
theorem d_Mo_child_2 : decode b_Mo_child 2 = .ok (.iload_n 1, 1) := by decide +kernel
theorem d_Mo_child_3 : decode b_Mo_child 3 = .ok (.invokevirtual 103, 3) := by decide +kernel
theorem d_Mo_child_6 : decode b_Mo_child 6 = .ok (.ifCond .eq 11, 3) := by decide +kernel
theorem d_Mo_child_9 : decode b_Mo_child 9 = .ok (.aload_n 0, 1) := by decide +kernel
theorem d_Mo_child_10 : decode b_Mo_child 10 = .ok (.iload_n 2, 1) := by decide +kernel
theorem d_Mo_child_11 : decode b_Mo_child 11 = .ok (.invokevirtual 103, 3) := by decide +kernel
theorem d_Mo_child_14 : decode b_Mo_child 14 = .ok (.ifCond .ne 7, 3) := by decide +kernel
theorem d_Mo_child_17 : decode b_Mo_child 17 = .ok (.iconst 1, 1) := by decide +kernel
theorem d_Mo_child_18 : decode b_Mo_child 18 = .ok (.goto 23, 3) := by decide +kernel
theorem d_Mo_child_21 : decode b_Mo_child 21 = .ok (.aload_n 0, 1) := by decide +kernel
theorem d_Mo_child_22 : decode b_Mo_child 22 = .ok (.getfield 86, 3) := by decide +kernel
theorem d_Mo_child_25 : decode b_Mo_child 25 = .ok (.iconst 3, 1) := by decide +kernel
theorem d_Mo_child_26 : decode b_Mo_child 26 = .ok (.if_icmp .eq 10, 3) := by decide +kernel
theorem d_Mo_child_29 : decode b_Mo_child 29 = .ok (.aload_n 0, 1) := by decide +kernel
theorem d_Mo_child_30 : decode b_Mo_child 30 = .ok (.invokevirtual 92, 3) := by decide +kernel
theorem d_Mo_child_33 : decode b_Mo_child 33 = .ok (.ifCond .eq 7, 3) := by decide +kernel
theorem d_Mo_child_36 : decode b_Mo_child 36 = .ok (.iconst 2, 1) := by decide +kernel
theorem d_Mo_child_37 : decode b_Mo_child 37 = .ok (.goto 4, 3) := by decide +kernel
theorem d_Mo_child_40 : decode b_Mo_child 40 = .ok (.iconst 0, 1) := by decide +kernel
theorem d_Mo_child_41 : decode b_Mo_child 41 = .ok (.invokevirtual 96, 3) := by decide +kernel
theorem d_Mo_child_44 : decode b_Mo_child 44 = .ok (.ifCond .eq 5, 3) := by decide +kernel
theorem d_Mo_child_47 : decode b_Mo_child 47 = .ok (.iconst 0, 1) := by decide +kernel
theorem d_Mo_child_48 : decode b_Mo_child 48 = .ok (.ireturn, 1) := by decide +kernel
theorem d_Mo_child_49 : decode b_Mo_child 49 = .ok (.aload_n 0, 1) := by decide +kernel
theorem d_Mo_child_50 : decode b_Mo_child 50 = .ok (.getfield 7, 3) := by decide +kernel
theorem d_Mo_child_53 : decode b_Mo_child 53 = .ok (.aload_n 0, 1) := by decide +kernel
theorem d_Mo_child_54 : decode b_Mo_child 54 = .ok (.getfield 80, 3) := by decide +kernel
theorem d_Mo_child_57 : decode b_Mo_child 57 = .ok (.aload_n 0, 1) := by decide +kernel
theorem d_Mo_child_58 : decode b_Mo_child 58 = .ok (.getfield 86, 3) := by decide +kernel
theorem d_Mo_child_61 : decode b_Mo_child 61 = .ok (.iastore, 1) := by decide +kernel
theorem d_Mo_child_62 : decode b_Mo_child 62 = .ok (.aload_n 0, 1) := by decide +kernel
theorem d_Mo_child_63 : decode b_Mo_child 63 = .ok (.getfield 13, 3) := by decide +kernel
theorem d_Mo_child_66 : decode b_Mo_child 66 = .ok (.aload_n 0, 1) := by decide +kernel
theorem d_Mo_child_67 : decode b_Mo_child 67 = .ok (.getfield 80, 3) := by decide +kernel
theorem d_Mo_child_70 : decode b_Mo_child 70 = .ok (.iload_n 1, 1) := by decide +kernel
theorem d_Mo_child_71 : decode b_Mo_child 71 = .ok (.iastore, 1) := by decide +kernel
theorem d_Mo_child_72 : decode b_Mo_child 72 = .ok (.aload_n 0, 1) := by decide +kernel
theorem d_Mo_child_73 : decode b_Mo_child 73 = .ok (.getfield 16, 3) := by decide +kernel
theorem d_Mo_child_76 : decode b_Mo_child 76 = .ok (.aload_n 0, 1) := by decide +kernel
theorem d_Mo_child_77 : decode b_Mo_child 77 = .ok (.getfield 80, 3) := by decide +kernel
theorem d_Mo_child_80 : decode b_Mo_child 80 = .ok (.iload_n 2, 1) := by decide +kernel
theorem d_Mo_child_81 : decode b_Mo_child 81 = .ok (.iastore, 1) := by decide +kernel
theorem d_Mo_child_82 : decode b_Mo_child 82 = .ok (.aload_n 0, 1) := by decide +kernel
theorem d_Mo_child_83 : decode b_Mo_child 83 = .ok (.dup, 1) := by decide +kernel
theorem d_Mo_child_84 : decode b_Mo_child 84 = .ok (.getfield 86, 3) := by decide +kernel
theorem d_Mo_child_87 : decode b_Mo_child 87 = .ok (.iconst 1, 1) := by decide +kernel
theorem d_Mo_child_88 : decode b_Mo_child 88 = .ok (.iadd, 1) := by decide +kernel
theorem d_Mo_child_89 : decode b_Mo_child 89 = .ok (.putfield 86, 3) := by decide +kernel
theorem d_Mo_child_92 : decode b_Mo_child 92 = .ok (.aload_n 0, 1) := by decide +kernel
theorem d_Mo_child_93 : decode b_Mo_child 93 = .ok (.dup, 1) := by decide +kernel
theorem d_Mo_child_94 : decode b_Mo_child 94 = .ok (.getfield 80, 3) := by decide +kernel
theorem d_Mo_child_97 : decode b_Mo_child 97 = .ok (.iconst 1, 1) := by decide +kernel
theorem d_Mo_child_98 : decode b_Mo_child 98 = .ok (.iadd, 1) := by decide +kernel
theorem d_Mo_child_99 : decode b_Mo_child 99 = .ok (.putfield 80, 3) := by decide +kernel
theorem d_Mo_child_102 : decode b_Mo_child 102 = .ok (.aload_n 0, 1) := by decide +kernel
theorem d_Mo_child_103 : decode b_Mo_child 103 = .ok (.invokevirtual 100, 3) := by decide +kernel
theorem d_Mo_child_106 : decode b_Mo_child 106 = .ok (.aload_n 0, 1) := by decide +kernel
theorem d_Mo_child_107 : decode b_Mo_child 107 = .ok (.getfield 80, 3) := by decide +kernel
theorem d_Mo_child_110 : decode b_Mo_child 110 = .ok (.iconst 1, 1) := by decide +kernel
theorem d_Mo_child_111 : decode b_Mo_child 111 = .ok (.isub, 1) := by decide +kernel
theorem d_Mo_child_112 : decode b_Mo_child 112 = .ok (.ireturn, 1) := by decide +kernel
theorem d_Mo_marker_0 : decode b_Mo_marker 0 = .ok (.iload_n 1, 1) := by decide +kernel
theorem d_Mo_marker_1 : decode b_Mo_marker 1 = .ok (.ifCond .lt 43, 3) := by decide +kernel
theorem d_Mo_marker_4 : decode b_Mo_marker 4 = .ok (.iload_n 2, 1) := by decide +kernel
theorem d_Mo_marker_5 : decode b_Mo_marker 5 = .ok (.ifCond .lt 39, 3) := by decide +kernel
theorem d_Mo_marker_8 : decode b_Mo_marker 8 = .ok (.iload_n 3, 1) := by decide +kernel
theorem d_Mo_marker_9 : decode b_Mo_marker 9 = .ok (.ifCond .lt 35, 3) := by decide +kernel
theorem d_Mo_marker_12 : decode b_Mo_marker 12 = .ok (.iload_n 1, 1) := by decide +kernel
theorem d_Mo_marker_13 : decode b_Mo_marker 13 = .ok (.bipush 8, 2) := by decide +kernel
theorem d_Mo_marker_15 : decode b_Mo_marker 15 = .ok (.if_icmp .gt 29, 3) := by decide +kernel
theorem d_Mo_marker_18 : decode b_Mo_marker 18 = .ok (.iload_n 2, 1) := by decide +kernel
theorem d_Mo_marker_19 : decode b_Mo_marker 19 = .ok (.bipush 8, 2) := by decide +kernel
theorem d_Mo_marker_21 : decode b_Mo_marker 21 = .ok (.if_icmp .gt 23, 3) := by decide +kernel
theorem d_Mo_marker_24 : decode b_Mo_marker 24 = .ok (.iload_n 3, 1) := by decide +kernel
theorem d_Mo_marker_25 : decode b_Mo_marker 25 = .ok (.bipush 8, 2) := by decide +kernel
theorem d_Mo_marker_27 : decode b_Mo_marker 27 = .ok (.if_icmp .gt 17, 3) := by decide +kernel
theorem d_Mo_marker_30 : decode b_Mo_marker 30 = .ok (.iload_n 1, 1) := by decide +kernel
theorem d_Mo_marker_31 : decode b_Mo_marker 31 = .ok (.iload_n 2, 1) := by decide +kernel
theorem d_Mo_marker_32 : decode b_Mo_marker 32 = .ok (.iadd, 1) := by decide +kernel
theorem d_Mo_marker_33 : decode b_Mo_marker 33 = .ok (.iload_n 3, 1) := by decide +kernel
theorem d_Mo_marker_34 : decode b_Mo_marker 34 = .ok (.iadd, 1) := by decide +kernel
theorem d_Mo_marker_35 : decode b_Mo_marker 35 = .ok (.bipush 8, 2) := by decide +kernel
theorem d_Mo_marker_37 : decode b_Mo_marker 37 = .ok (.if_icmp .ne 7, 3) := by decide +kernel
theorem d_Mo_marker_40 : decode b_Mo_marker 40 = .ok (.iconst 1, 1) := by decide +kernel
theorem d_Mo_marker_41 : decode b_Mo_marker 41 = .ok (.goto 4, 3) := by decide +kernel
theorem d_Mo_marker_44 : decode b_Mo_marker 44 = .ok (.iconst 0, 1) := by decide +kernel
theorem d_Mo_marker_45 : decode b_Mo_marker 45 = .ok (.istore 4, 2) := by decide +kernel
theorem d_Mo_marker_47 : decode b_Mo_marker 47 = .ok (.aload_n 0, 1) := by decide +kernel
theorem d_Mo_marker_48 : decode b_Mo_marker 48 = .ok (.iload 4, 2) := by decide +kernel
theorem d_Mo_marker_50 : decode b_Mo_marker 50 = .ok (.ifCond .ne 7, 3) := by decide +kernel
theorem d_Mo_marker_53 : decode b_Mo_marker 53 = .ok (.iconst 1, 1) := by decide +kernel
theorem d_Mo_marker_54 : decode b_Mo_marker 54 = .ok (.goto 16, 3) := by decide +kernel
theorem d_Mo_marker_57 : decode b_Mo_marker 57 = .ok (.aload_n 0, 1) := by decide +kernel
theorem d_Mo_marker_58 : decode b_Mo_marker 58 = .ok (.getfield 83, 3) := by decide +kernel
theorem d_Mo_marker_61 : decode b_Mo_marker 61 = .ok (.iconst 4, 1) := by decide +kernel
theorem d_Mo_marker_62 : decode b_Mo_marker 62 = .ok (.if_icmp .ne 7, 3) := by decide +kernel
theorem d_Mo_marker_65 : decode b_Mo_marker 65 = .ok (.iconst 2, 1) := by decide +kernel
theorem d_Mo_marker_66 : decode b_Mo_marker 66 = .ok (.goto 4, 3) := by decide +kernel
theorem d_Mo_marker_69 : decode b_Mo_marker 69 = .ok (.iconst 0, 1) := by decide +kernel
theorem d_Mo_marker_70 : decode b_Mo_marker 70 = .ok (.invokevirtual 96, 3) := by decide +kernel
theorem d_Mo_marker_73 : decode b_Mo_marker 73 = .ok (.ifCond .eq 5, 3) := by decide +kernel
theorem d_Mo_marker_76 : decode b_Mo_marker 76 = .ok (.iconst 0, 1) := by decide +kernel
theorem d_Mo_marker_77 : decode b_Mo_marker 77 = .ok (.ireturn, 1) := by decide +kernel
theorem d_Mo_marker_78 : decode b_Mo_marker 78 = .ok (.aload_n 0, 1) := by decide +kernel
theorem d_Mo_marker_79 : decode b_Mo_marker 79 = .ok (.getfield 19, 3) := by decide +kernel
theorem d_Mo_marker_82 : decode b_Mo_marker 82 = .ok (.iconst 4, 1) := by decide +kernel
theorem d_Mo_marker_83 : decode b_Mo_marker 83 = .ok (.aload_n 0, 1) := by decide +kernel
theorem d_Mo_marker_84 : decode b_Mo_marker 84 = .ok (.getfield 83, 3) := by decide +kernel
theorem d_Mo_marker_87 : decode b_Mo_marker 87 = .ok (.imul, 1) := by decide +kernel
theorem d_Mo_marker_88 : decode b_Mo_marker 88 = .ok (.iconst 1, 1) := by decide +kernel
theorem d_Mo_marker_89 : decode b_Mo_marker 89 = .ok (.iadd, 1) := by decide +kernel
theorem d_Mo_marker_90 : decode b_Mo_marker 90 = .ok (.iload_n 1, 1) := by decide +kernel
theorem d_Mo_marker_91 : decode b_Mo_marker 91 = .ok (.iastore, 1) := by decide +kernel
theorem d_Mo_marker_92 : decode b_Mo_marker 92 = .ok (.aload_n 0, 1) := by decide +kernel
theorem d_Mo_marker_93 : decode b_Mo_marker 93 = .ok (.getfield 19, 3) := by decide +kernel
theorem d_Mo_marker_96 : decode b_Mo_marker 96 = .ok (.iconst 4, 1) := by decide +kernel
theorem d_Mo_marker_97 : decode b_Mo_marker 97 = .ok (.aload_n 0, 1) := by decide +kernel
theorem d_Mo_marker_98 : decode b_Mo_marker 98 = .ok (.getfield 83, 3) := by decide +kernel
theorem d_Mo_marker_101 : decode b_Mo_marker 101 = .ok (.imul, 1) := by decide +kernel
theorem d_Mo_marker_102 : decode b_Mo_marker 102 = .ok (.iconst 2, 1) := by decide +kernel
theorem d_Mo_marker_103 : decode b_Mo_marker 103 = .ok (.iadd, 1) := by decide +kernel
theorem d_Mo_marker_104 : decode b_Mo_marker 104 = .ok (.iload_n 2, 1) := by decide +kernel
theorem d_Mo_marker_105 : decode b_Mo_marker 105 = .ok (.iastore, 1) := by decide +kernel
theorem d_Mo_marker_106 : decode b_Mo_marker 106 = .ok (.aload_n 0, 1) := by decide +kernel
theorem d_Mo_marker_107 : decode b_Mo_marker 107 = .ok (.getfield 19, 3) := by decide +kernel
theorem d_Mo_marker_110 : decode b_Mo_marker 110 = .ok (.iconst 4, 1) := by decide +kernel
theorem d_Mo_marker_111 : decode b_Mo_marker 111 = .ok (.aload_n 0, 1) := by decide +kernel
theorem d_Mo_marker_112 : decode b_Mo_marker 112 = .ok (.getfield 83, 3) := by decide +kernel
theorem d_Mo_marker_115 : decode b_Mo_marker 115 = .ok (.imul, 1) := by decide +kernel
theorem d_Mo_marker_116 : decode b_Mo_marker 116 = .ok (.iconst 3, 1) := by decide +kernel
theorem d_Mo_marker_117 : decode b_Mo_marker 117 = .ok (.iadd, 1) := by decide +kernel
theorem d_Mo_marker_118 : decode b_Mo_marker 118 = .ok (.iload_n 3, 1) := by decide +kernel
theorem d_Mo_marker_119 : decode b_Mo_marker 119 = .ok (.iastore, 1) := by decide +kernel
theorem d_Mo_marker_120 : decode b_Mo_marker 120 = .ok (.aload_n 0, 1) := by decide +kernel
theorem d_Mo_marker_121 : decode b_Mo_marker 121 = .ok (.getfield 22, 3) := by decide +kernel
theorem d_Mo_marker_124 : decode b_Mo_marker 124 = .ok (.aload_n 0, 1) := by decide +kernel
theorem d_Mo_marker_125 : decode b_Mo_marker 125 = .ok (.getfield 83, 3) := by decide +kernel
theorem d_Mo_marker_128 : decode b_Mo_marker 128 = .ok (.bipush 8, 2) := by decide +kernel
theorem d_Mo_marker_130 : decode b_Mo_marker 130 = .ok (.iastore, 1) := by decide +kernel
theorem d_Mo_marker_131 : decode b_Mo_marker 131 = .ok (.aload_n 0, 1) := by decide +kernel
theorem d_Mo_marker_132 : decode b_Mo_marker 132 = .ok (.getfield 34, 3) := by decide +kernel
theorem d_Mo_marker_135 : decode b_Mo_marker 135 = .ok (.aload_n 0, 1) := by decide +kernel
theorem d_Mo_marker_136 : decode b_Mo_marker 136 = .ok (.getfield 83, 3) := by decide +kernel
theorem d_Mo_marker_139 : decode b_Mo_marker 139 = .ok (.iconst 0, 1) := by decide +kernel
theorem d_Mo_marker_140 : decode b_Mo_marker 140 = .ok (.bastore, 1) := by decide +kernel
theorem d_Mo_marker_141 : decode b_Mo_marker 141 = .ok (.aload_n 0, 1) := by decide +kernel
theorem d_Mo_marker_142 : decode b_Mo_marker 142 = .ok (.dup, 1) := by decide +kernel
theorem d_Mo_marker_143 : decode b_Mo_marker 143 = .ok (.getfield 83, 3) := by decide +kernel
theorem d_Mo_marker_146 : decode b_Mo_marker 146 = .ok (.iconst 1, 1) := by decide +kernel
theorem d_Mo_marker_147 : decode b_Mo_marker 147 = .ok (.iadd, 1) := by decide +kernel
theorem d_Mo_marker_148 : decode b_Mo_marker 148 = .ok (.putfield 83, 3) := by decide +kernel
theorem d_Mo_marker_151 : decode b_Mo_marker 151 = .ok (.aload_n 0, 1) := by decide +kernel
theorem d_Mo_marker_152 : decode b_Mo_marker 152 = .ok (.getfield 83, 3) := by decide +kernel
theorem d_Mo_marker_155 : decode b_Mo_marker 155 = .ok (.iconst 1, 1) := by decide +kernel
theorem d_Mo_marker_156 : decode b_Mo_marker 156 = .ok (.isub, 1) := by decide +kernel
theorem d_Mo_marker_157 : decode b_Mo_marker 157 = .ok (.ireturn, 1) := by decide +kernel
theorem d_Mo_rate_0 : decode b_Mo_rate 0 = .ok (.aload_n 0, 1) := by decide +kernel
theorem d_Mo_rate_1 : decode b_Mo_rate 1 = .ok (.aload_n 0, 1) := by decide +kernel
theorem d_Mo_rate_2 : decode b_Mo_rate 2 = .ok (.iload_n 1, 1) := by decide +kernel
theorem d_Mo_rate_3 : decode b_Mo_rate 3 = .ok (.invokevirtual 106, 3) := by decide +kernel
theorem d_Mo_rate_6 : decode b_Mo_rate 6 = .ok (.ifCond .ne 7, 3) := by decide +kernel
theorem d_Mo_rate_9 : decode b_Mo_rate 9 = .ok (.iconst 1, 1) := by decide +kernel
theorem d_Mo_rate_10 : decode b_Mo_rate 10 = .ok (.goto 18, 3) := by decide +kernel
theorem d_Mo_rate_13 : decode b_Mo_rate 13 = .ok (.iload_n 2, 1) := by decide +kernel
theorem d_Mo_rate_14 : decode b_Mo_rate 14 = .ok (.ifCond .lt 9, 3) := by decide +kernel
theorem d_Mo_rate_17 : decode b_Mo_rate 17 = .ok (.iload_n 2, 1) := by decide +kernel
theorem d_Mo_rate_18 : decode b_Mo_rate 18 = .ok (.bipush 8, 2) := by decide +kernel
theorem d_Mo_rate_20 : decode b_Mo_rate 20 = .ok (.if_icmp .le 7, 3) := by decide +kernel
theorem d_Mo_rate_23 : decode b_Mo_rate 23 = .ok (.iconst 2, 1) := by decide +kernel
theorem d_Mo_rate_24 : decode b_Mo_rate 24 = .ok (.goto 4, 3) := by decide +kernel
theorem d_Mo_rate_27 : decode b_Mo_rate 27 = .ok (.iconst 0, 1) := by decide +kernel
theorem d_Mo_rate_28 : decode b_Mo_rate 28 = .ok (.invokevirtual 96, 3) := by decide +kernel
theorem d_Mo_rate_31 : decode b_Mo_rate 31 = .ok (.ifCond .eq 5, 3) := by decide +kernel
theorem d_Mo_rate_34 : decode b_Mo_rate 34 = .ok (.iconst 0, 1) := by decide +kernel
theorem d_Mo_rate_35 : decode b_Mo_rate 35 = .ok (.ireturn, 1) := by decide +kernel
theorem d_Mo_rate_36 : decode b_Mo_rate 36 = .ok (.aload_n 0, 1) := by decide +kernel
theorem d_Mo_rate_37 : decode b_Mo_rate 37 = .ok (.getfield 22, 3) := by decide +kernel
theorem d_Mo_rate_40 : decode b_Mo_rate 40 = .ok (.iload_n 1, 1) := by decide +kernel
theorem d_Mo_rate_41 : decode b_Mo_rate 41 = .ok (.iaload, 1) := by decide +kernel
theorem d_Mo_rate_42 : decode b_Mo_rate 42 = .ok (.istore_n 3, 1) := by decide +kernel
theorem d_Mo_rate_43 : decode b_Mo_rate 43 = .ok (.aload_n 0, 1) := by decide +kernel
theorem d_Mo_rate_44 : decode b_Mo_rate 44 = .ok (.getfield 22, 3) := by decide +kernel
theorem d_Mo_rate_47 : decode b_Mo_rate 47 = .ok (.iload_n 1, 1) := by decide +kernel
theorem d_Mo_rate_48 : decode b_Mo_rate 48 = .ok (.iload_n 2, 1) := by decide +kernel
theorem d_Mo_rate_49 : decode b_Mo_rate 49 = .ok (.iastore, 1) := by decide +kernel
theorem d_Mo_rate_50 : decode b_Mo_rate 50 = .ok (.iload_n 3, 1) := by decide +kernel
theorem d_Mo_rate_51 : decode b_Mo_rate 51 = .ok (.ireturn, 1) := by decide +kernel
theorem d_Mo_see_0 : decode b_Mo_see 0 = .ok (.aload_n 0, 1) := by decide +kernel
theorem d_Mo_see_1 : decode b_Mo_see 1 = .ok (.iload_n 1, 1) := by decide +kernel
theorem d_Mo_see_2 : decode b_Mo_see 2 = .ok (.invokevirtual 103, 3) := by decide +kernel
theorem d_Mo_see_5 : decode b_Mo_see 5 = .ok (.ifCond .eq 15, 3) := by decide +kernel
theorem d_Mo_see_8 : decode b_Mo_see 8 = .ok (.aload_n 0, 1) := by decide +kernel
theorem d_Mo_see_9 : decode b_Mo_see 9 = .ok (.iload_n 2, 1) := by decide +kernel
theorem d_Mo_see_10 : decode b_Mo_see 10 = .ok (.invokevirtual 109, 3) := by decide +kernel
theorem d_Mo_see_13 : decode b_Mo_see 13 = .ok (.ifCond .eq 7, 3) := by decide +kernel
theorem d_Mo_see_16 : decode b_Mo_see 16 = .ok (.iconst 1, 1) := by decide +kernel
theorem d_Mo_see_17 : decode b_Mo_see 17 = .ok (.goto 4, 3) := by decide +kernel
theorem d_Mo_see_20 : decode b_Mo_see 20 = .ok (.iconst 0, 1) := by decide +kernel
theorem d_Mo_see_21 : decode b_Mo_see 21 = .ok (.istore 5, 2) := by decide +kernel
theorem d_Mo_see_23 : decode b_Mo_see 23 = .ok (.aload_n 0, 1) := by decide +kernel
theorem d_Mo_see_24 : decode b_Mo_see 24 = .ok (.iload 5, 2) := by decide +kernel
theorem d_Mo_see_26 : decode b_Mo_see 26 = .ok (.ifCond .ne 7, 3) := by decide +kernel
theorem d_Mo_see_29 : decode b_Mo_see 29 = .ok (.iconst 1, 1) := by decide +kernel
theorem d_Mo_see_30 : decode b_Mo_see 30 = .ok (.goto 23, 3) := by decide +kernel
theorem d_Mo_see_33 : decode b_Mo_see 33 = .ok (.iload_n 3, 1) := by decide +kernel
theorem d_Mo_see_34 : decode b_Mo_see 34 = .ok (.invokestatic 112, 3) := by decide +kernel
theorem d_Mo_see_37 : decode b_Mo_see 37 = .ok (.ifCond .eq 11, 3) := by decide +kernel
theorem d_Mo_see_40 : decode b_Mo_see 40 = .ok (.iload 4, 2) := by decide +kernel
theorem d_Mo_see_42 : decode b_Mo_see 42 = .ok (.invokestatic 112, 3) := by decide +kernel
theorem d_Mo_see_45 : decode b_Mo_see 45 = .ok (.ifCond .ne 7, 3) := by decide +kernel
theorem d_Mo_see_48 : decode b_Mo_see 48 = .ok (.iconst 2, 1) := by decide +kernel
theorem d_Mo_see_49 : decode b_Mo_see 49 = .ok (.goto 4, 3) := by decide +kernel
theorem d_Mo_see_52 : decode b_Mo_see 52 = .ok (.iconst 0, 1) := by decide +kernel
theorem d_Mo_see_53 : decode b_Mo_see 53 = .ok (.invokevirtual 96, 3) := by decide +kernel
theorem d_Mo_see_56 : decode b_Mo_see 56 = .ok (.ifCond .eq 4, 3) := by decide +kernel
theorem d_Mo_see_59 : decode b_Mo_see 59 = .ok (.return_, 1) := by decide +kernel
theorem d_Mo_see_60 : decode b_Mo_see 60 = .ok (.aload_n 0, 1) := by decide +kernel
theorem d_Mo_see_61 : decode b_Mo_see 61 = .ok (.getfield 28, 3) := by decide +kernel
theorem d_Mo_see_64 : decode b_Mo_see 64 = .ok (.iconst 4, 1) := by decide +kernel
theorem d_Mo_see_65 : decode b_Mo_see 65 = .ok (.iload_n 1, 1) := by decide +kernel
theorem d_Mo_see_66 : decode b_Mo_see 66 = .ok (.imul, 1) := by decide +kernel
theorem d_Mo_see_67 : decode b_Mo_see 67 = .ok (.iload_n 2, 1) := by decide +kernel
theorem d_Mo_see_68 : decode b_Mo_see 68 = .ok (.iadd, 1) := by decide +kernel
theorem d_Mo_see_69 : decode b_Mo_see 69 = .ok (.iload_n 3, 1) := by decide +kernel
theorem d_Mo_see_70 : decode b_Mo_see 70 = .ok (.iload 4, 2) := by decide +kernel
theorem d_Mo_see_72 : decode b_Mo_see 72 = .ok (.if_icmp .ge 13, 3) := by decide +kernel
theorem d_Mo_see_75 : decode b_Mo_see 75 = .ok (.bipush 10, 2) := by decide +kernel
theorem d_Mo_see_77 : decode b_Mo_see 77 = .ok (.iload_n 3, 1) := by decide +kernel
theorem d_Mo_see_78 : decode b_Mo_see 78 = .ok (.imul, 1) := by decide +kernel
theorem d_Mo_see_79 : decode b_Mo_see 79 = .ok (.iload 4, 2) := by decide +kernel
theorem d_Mo_see_81 : decode b_Mo_see 81 = .ok (.iadd, 1) := by decide +kernel
theorem d_Mo_see_82 : decode b_Mo_see 82 = .ok (.goto 10, 3) := by decide +kernel
theorem d_Mo_see_85 : decode b_Mo_see 85 = .ok (.bipush 10, 2) := by decide +kernel
theorem d_Mo_see_87 : decode b_Mo_see 87 = .ok (.iload 4, 2) := by decide +kernel
theorem d_Mo_see_89 : decode b_Mo_see 89 = .ok (.imul, 1) := by decide +kernel
theorem d_Mo_see_90 : decode b_Mo_see 90 = .ok (.iload_n 3, 1) := by decide +kernel
theorem d_Mo_see_91 : decode b_Mo_see 91 = .ok (.iadd, 1) := by decide +kernel
theorem d_Mo_see_92 : decode b_Mo_see 92 = .ok (.iastore, 1) := by decide +kernel
theorem d_Mo_see_93 : decode b_Mo_see 93 = .ok (.aload_n 0, 1) := by decide +kernel
theorem d_Mo_see_94 : decode b_Mo_see 94 = .ok (.getfield 34, 3) := by decide +kernel
theorem d_Mo_see_97 : decode b_Mo_see 97 = .ok (.iload_n 2, 1) := by decide +kernel
theorem d_Mo_see_98 : decode b_Mo_see 98 = .ok (.iconst 0, 1) := by decide +kernel
theorem d_Mo_see_99 : decode b_Mo_see 99 = .ok (.bastore, 1) := by decide +kernel
theorem d_Mo_see_100 : decode b_Mo_see 100 = .ok (.return_, 1) := by decide +kernel
theorem d_Mo_unsee_0 : decode b_Mo_unsee 0 = .ok (.aload_n 0, 1) := by decide +kernel
theorem d_Mo_unsee_1 : decode b_Mo_unsee 1 = .ok (.aload_n 0, 1) := by decide +kernel
theorem d_Mo_unsee_2 : decode b_Mo_unsee 2 = .ok (.iload_n 1, 1) := by decide +kernel
theorem d_Mo_unsee_3 : decode b_Mo_unsee 3 = .ok (.invokevirtual 103, 3) := by decide +kernel
theorem d_Mo_unsee_6 : decode b_Mo_unsee 6 = .ok (.ifCond .eq 15, 3) := by decide +kernel
theorem d_Mo_unsee_9 : decode b_Mo_unsee 9 = .ok (.aload_n 0, 1) := by decide +kernel
theorem d_Mo_unsee_10 : decode b_Mo_unsee 10 = .ok (.iload_n 2, 1) := by decide +kernel
theorem d_Mo_unsee_11 : decode b_Mo_unsee 11 = .ok (.invokevirtual 109, 3) := by decide +kernel
theorem d_Mo_unsee_14 : decode b_Mo_unsee 14 = .ok (.ifCond .eq 7, 3) := by decide +kernel
theorem d_Mo_unsee_17 : decode b_Mo_unsee 17 = .ok (.iconst 0, 1) := by decide +kernel
theorem d_Mo_unsee_18 : decode b_Mo_unsee 18 = .ok (.goto 4, 3) := by decide +kernel
theorem d_Mo_unsee_21 : decode b_Mo_unsee 21 = .ok (.iconst 1, 1) := by decide +kernel
theorem d_Mo_unsee_22 : decode b_Mo_unsee 22 = .ok (.invokevirtual 96, 3) := by decide +kernel
theorem d_Mo_unsee_25 : decode b_Mo_unsee 25 = .ok (.ifCond .eq 5, 3) := by decide +kernel
theorem d_Mo_unsee_28 : decode b_Mo_unsee 28 = .ok (.iconst 0, 1) := by decide +kernel
theorem d_Mo_unsee_29 : decode b_Mo_unsee 29 = .ok (.ireturn, 1) := by decide +kernel
theorem d_Mo_unsee_30 : decode b_Mo_unsee 30 = .ok (.aload_n 0, 1) := by decide +kernel
theorem d_Mo_unsee_31 : decode b_Mo_unsee 31 = .ok (.getfield 28, 3) := by decide +kernel
theorem d_Mo_unsee_34 : decode b_Mo_unsee 34 = .ok (.iconst 4, 1) := by decide +kernel
theorem d_Mo_unsee_35 : decode b_Mo_unsee 35 = .ok (.iload_n 1, 1) := by decide +kernel
theorem d_Mo_unsee_36 : decode b_Mo_unsee 36 = .ok (.imul, 1) := by decide +kernel
theorem d_Mo_unsee_37 : decode b_Mo_unsee 37 = .ok (.iload_n 2, 1) := by decide +kernel
theorem d_Mo_unsee_38 : decode b_Mo_unsee 38 = .ok (.iadd, 1) := by decide +kernel
theorem d_Mo_unsee_39 : decode b_Mo_unsee 39 = .ok (.iaload, 1) := by decide +kernel
theorem d_Mo_unsee_40 : decode b_Mo_unsee 40 = .ok (.ifCond .le 7, 3) := by decide +kernel
theorem d_Mo_unsee_43 : decode b_Mo_unsee 43 = .ok (.iconst 1, 1) := by decide +kernel
theorem d_Mo_unsee_44 : decode b_Mo_unsee 44 = .ok (.goto 4, 3) := by decide +kernel
theorem d_Mo_unsee_47 : decode b_Mo_unsee 47 = .ok (.iconst 0, 1) := by decide +kernel
theorem d_Mo_unsee_48 : decode b_Mo_unsee 48 = .ok (.istore_n 3, 1) := by decide +kernel
theorem d_Mo_unsee_49 : decode b_Mo_unsee 49 = .ok (.aload_n 0, 1) := by decide +kernel
theorem d_Mo_unsee_50 : decode b_Mo_unsee 50 = .ok (.getfield 28, 3) := by decide +kernel
theorem d_Mo_unsee_53 : decode b_Mo_unsee 53 = .ok (.iconst 4, 1) := by decide +kernel
theorem d_Mo_unsee_54 : decode b_Mo_unsee 54 = .ok (.iload_n 1, 1) := by decide +kernel
theorem d_Mo_unsee_55 : decode b_Mo_unsee 55 = .ok (.imul, 1) := by decide +kernel
theorem d_Mo_unsee_56 : decode b_Mo_unsee 56 = .ok (.iload_n 2, 1) := by decide +kernel
theorem d_Mo_unsee_57 : decode b_Mo_unsee 57 = .ok (.iadd, 1) := by decide +kernel
theorem d_Mo_unsee_58 : decode b_Mo_unsee 58 = .ok (.iconst 0, 1) := by decide +kernel
theorem d_Mo_unsee_59 : decode b_Mo_unsee 59 = .ok (.iastore, 1) := by decide +kernel
theorem d_Mo_unsee_60 : decode b_Mo_unsee 60 = .ok (.aload_n 0, 1) := by decide +kernel
theorem d_Mo_unsee_61 : decode b_Mo_unsee 61 = .ok (.getfield 34, 3) := by decide +kernel
theorem d_Mo_unsee_64 : decode b_Mo_unsee 64 = .ok (.iload_n 2, 1) := by decide +kernel
theorem d_Mo_unsee_65 : decode b_Mo_unsee 65 = .ok (.iconst 0, 1) := by decide +kernel
theorem d_Mo_unsee_66 : decode b_Mo_unsee 66 = .ok (.bastore, 1) := by decide +kernel
theorem d_Mo_unsee_67 : decode b_Mo_unsee 67 = .ok (.iload_n 3, 1) := by decide +kernel
theorem d_Mo_unsee_68 : decode b_Mo_unsee 68 = .ok (.ireturn, 1) := by decide +kernel
theorem d_Mo_count_0 : decode b_Mo_count 0 = .ok (.aload_n 0, 1) := by decide +kernel
theorem d_Mo_count_1 : decode b_Mo_count 1 = .ok (.iconst 0, 1) := by decide +kernel
theorem d_Mo_count_2 : decode b_Mo_count 2 = .ok (.putfield 76, 3) := by decide +kernel
theorem d_Mo_count_5 : decode b_Mo_count 5 = .ok (.aload_n 0, 1) := by decide +kernel
theorem d_Mo_count_6 : decode b_Mo_count 6 = .ok (.getfield 83, 3) := by decide +kernel
theorem d_Mo_count_9 : decode b_Mo_count 9 = .ok (.ifCond .ne 7, 3) := by decide +kernel
theorem d_Mo_count_12 : decode b_Mo_count 12 = .ok (.iconst 0, 1) := by decide +kernel
theorem d_Mo_count_13 : decode b_Mo_count 13 = .ok (.goto 9, 3) := by decide +kernel
theorem d_Mo_count_16 : decode b_Mo_count 16 = .ok (.aload_n 0, 1) := by decide +kernel
theorem d_Mo_count_17 : decode b_Mo_count 17 = .ok (.getfield 83, 3) := by decide +kernel
theorem d_Mo_count_20 : decode b_Mo_count 20 = .ok (.iconst 1, 1) := by decide +kernel
theorem d_Mo_count_21 : decode b_Mo_count 21 = .ok (.isub, 1) := by decide +kernel
theorem d_Mo_count_22 : decode b_Mo_count 22 = .ok (.istore_n 2, 1) := by decide +kernel
theorem d_Mo_count_23 : decode b_Mo_count 23 = .ok (.iload_n 1, 1) := by decide +kernel
theorem d_Mo_count_24 : decode b_Mo_count 24 = .ok (.tableswitch 95 0 5 #[40, 45, 50, 55, 60, 65], 40) := by decide +kernel
theorem d_Mo_count_64 : decode b_Mo_count 64 = .ok (.aload_n 0, 1) := by decide +kernel
theorem d_Mo_count_65 : decode b_Mo_count 65 = .ok (.getfield 80, 3) := by decide +kernel
theorem d_Mo_count_68 : decode b_Mo_count 68 = .ok (.ireturn, 1) := by decide +kernel
theorem d_Mo_count_69 : decode b_Mo_count 69 = .ok (.aload_n 0, 1) := by decide +kernel
theorem d_Mo_count_70 : decode b_Mo_count 70 = .ok (.getfield 89, 3) := by decide +kernel
theorem d_Mo_count_73 : decode b_Mo_count 73 = .ok (.ireturn, 1) := by decide +kernel
theorem d_Mo_count_74 : decode b_Mo_count 74 = .ok (.aload_n 0, 1) := by decide +kernel
theorem d_Mo_count_75 : decode b_Mo_count 75 = .ok (.getfield 86, 3) := by decide +kernel
theorem d_Mo_count_78 : decode b_Mo_count 78 = .ok (.ireturn, 1) := by decide +kernel
theorem d_Mo_count_79 : decode b_Mo_count 79 = .ok (.aload_n 0, 1) := by decide +kernel
theorem d_Mo_count_80 : decode b_Mo_count 80 = .ok (.getfield 83, 3) := by decide +kernel
theorem d_Mo_count_83 : decode b_Mo_count 83 = .ok (.ireturn, 1) := by decide +kernel
theorem d_Mo_count_84 : decode b_Mo_count 84 = .ok (.aload_n 0, 1) := by decide +kernel
theorem d_Mo_count_85 : decode b_Mo_count 85 = .ok (.invokevirtual 115, 3) := by decide +kernel
theorem d_Mo_count_88 : decode b_Mo_count 88 = .ok (.ireturn, 1) := by decide +kernel
theorem d_Mo_count_89 : decode b_Mo_count 89 = .ok (.iconst 2, 1) := by decide +kernel
theorem d_Mo_count_90 : decode b_Mo_count 90 = .ok (.aload_n 0, 1) := by decide +kernel
theorem d_Mo_count_91 : decode b_Mo_count 91 = .ok (.getfield 86, 3) := by decide +kernel
theorem d_Mo_count_94 : decode b_Mo_count 94 = .ok (.imul, 1) := by decide +kernel
theorem d_Mo_count_95 : decode b_Mo_count 95 = .ok (.bipush 6, 2) := by decide +kernel
theorem d_Mo_count_97 : decode b_Mo_count 97 = .ok (.aload_n 0, 1) := by decide +kernel
theorem d_Mo_count_98 : decode b_Mo_count 98 = .ok (.getfield 89, 3) := by decide +kernel
theorem d_Mo_count_101 : decode b_Mo_count 101 = .ok (.imul, 1) := by decide +kernel
theorem d_Mo_count_102 : decode b_Mo_count 102 = .ok (.aload_n 0, 1) := by decide +kernel
theorem d_Mo_count_103 : decode b_Mo_count 103 = .ok (.getfield 83, 3) := by decide +kernel
theorem d_Mo_count_106 : decode b_Mo_count 106 = .ok (.imul, 1) := by decide +kernel
theorem d_Mo_count_107 : decode b_Mo_count 107 = .ok (.iadd, 1) := by decide +kernel
theorem d_Mo_count_108 : decode b_Mo_count 108 = .ok (.bipush 8, 2) := by decide +kernel
theorem d_Mo_count_110 : decode b_Mo_count 110 = .ok (.aload_n 0, 1) := by decide +kernel
theorem d_Mo_count_111 : decode b_Mo_count 111 = .ok (.getfield 86, 3) := by decide +kernel
theorem d_Mo_count_114 : decode b_Mo_count 114 = .ok (.imul, 1) := by decide +kernel
theorem d_Mo_count_115 : decode b_Mo_count 115 = .ok (.iload_n 2, 1) := by decide +kernel
theorem d_Mo_count_116 : decode b_Mo_count 116 = .ok (.imul, 1) := by decide +kernel
theorem d_Mo_count_117 : decode b_Mo_count 117 = .ok (.iadd, 1) := by decide +kernel
theorem d_Mo_count_118 : decode b_Mo_count 118 = .ok (.ireturn, 1) := by decide +kernel
theorem d_Mo_count_119 : decode b_Mo_count 119 = .ok (.iconst (-1), 1) := by decide +kernel
theorem d_Mo_count_120 : decode b_Mo_count 120 = .ok (.ireturn, 1) := by decide +kernel
theorem d_Mo_origin_0 : decode b_Mo_origin 0 = .ok (.aload_n 0, 1) := by decide +kernel
theorem d_Mo_origin_1 : decode b_Mo_origin 1 = .ok (.iload_n 1, 1) := by decide +kernel
theorem d_Mo_origin_2 : decode b_Mo_origin 2 = .ok (.invokevirtual 103, 3) := by decide +kernel
theorem d_Mo_origin_5 : decode b_Mo_origin 5 = .ok (.ifCond .eq 24, 3) := by decide +kernel
theorem d_Mo_origin_8 : decode b_Mo_origin 8 = .ok (.iload_n 2, 1) := by decide +kernel
theorem d_Mo_origin_9 : decode b_Mo_origin 9 = .ok (.ifCond .eq 8, 3) := by decide +kernel
theorem d_Mo_origin_12 : decode b_Mo_origin 12 = .ok (.iload_n 2, 1) := by decide +kernel
theorem d_Mo_origin_13 : decode b_Mo_origin 13 = .ok (.iconst 1, 1) := by decide +kernel
theorem d_Mo_origin_14 : decode b_Mo_origin 14 = .ok (.if_icmp .ne 15, 3) := by decide +kernel
theorem d_Mo_origin_17 : decode b_Mo_origin 17 = .ok (.aload_n 0, 1) := by decide +kernel
theorem d_Mo_origin_18 : decode b_Mo_origin 18 = .ok (.iload_n 3, 1) := by decide +kernel
theorem d_Mo_origin_19 : decode b_Mo_origin 19 = .ok (.invokevirtual 119, 3) := by decide +kernel
theorem d_Mo_origin_22 : decode b_Mo_origin 22 = .ok (.ifCond .eq 7, 3) := by decide +kernel
theorem d_Mo_origin_25 : decode b_Mo_origin 25 = .ok (.iconst 1, 1) := by decide +kernel
theorem d_Mo_origin_26 : decode b_Mo_origin 26 = .ok (.goto 4, 3) := by decide +kernel
theorem d_Mo_origin_29 : decode b_Mo_origin 29 = .ok (.iconst 0, 1) := by decide +kernel
theorem d_Mo_origin_30 : decode b_Mo_origin 30 = .ok (.istore 4, 2) := by decide +kernel
theorem d_Mo_origin_32 : decode b_Mo_origin 32 = .ok (.aload_n 0, 1) := by decide +kernel
theorem d_Mo_origin_33 : decode b_Mo_origin 33 = .ok (.iload 4, 2) := by decide +kernel
theorem d_Mo_origin_35 : decode b_Mo_origin 35 = .ok (.ifCond .eq 7, 3) := by decide +kernel
theorem d_Mo_origin_38 : decode b_Mo_origin 38 = .ok (.iconst 0, 1) := by decide +kernel
theorem d_Mo_origin_39 : decode b_Mo_origin 39 = .ok (.goto 4, 3) := by decide +kernel
theorem d_Mo_origin_42 : decode b_Mo_origin 42 = .ok (.iconst 1, 1) := by decide +kernel
theorem d_Mo_origin_43 : decode b_Mo_origin 43 = .ok (.invokevirtual 96, 3) := by decide +kernel
theorem d_Mo_origin_46 : decode b_Mo_origin 46 = .ok (.ifCond .eq 7, 3) := by decide +kernel
theorem d_Mo_origin_49 : decode b_Mo_origin 49 = .ok (.iconst 0, 1) := by decide +kernel
theorem d_Mo_origin_50 : decode b_Mo_origin 50 = .ok (.goto 10, 3) := by decide +kernel
theorem d_Mo_origin_53 : decode b_Mo_origin 53 = .ok (.aload_n 0, 1) := by decide +kernel
theorem d_Mo_origin_54 : decode b_Mo_origin 54 = .ok (.iload_n 1, 1) := by decide +kernel
theorem d_Mo_origin_55 : decode b_Mo_origin 55 = .ok (.iload_n 2, 1) := by decide +kernel
theorem d_Mo_origin_56 : decode b_Mo_origin 56 = .ok (.iload_n 3, 1) := by decide +kernel
theorem d_Mo_origin_57 : decode b_Mo_origin 57 = .ok (.invokevirtual 122, 3) := by decide +kernel
theorem d_Mo_origin_60 : decode b_Mo_origin 60 = .ok (.ireturn, 1) := by decide +kernel
theorem d_Mo_fit_0 : decode b_Mo_fit 0 = .ok (.aload_n 0, 1) := by decide +kernel
theorem d_Mo_fit_1 : decode b_Mo_fit 1 = .ok (.aload_n 0, 1) := by decide +kernel
theorem d_Mo_fit_2 : decode b_Mo_fit 2 = .ok (.iload_n 1, 1) := by decide +kernel
theorem d_Mo_fit_3 : decode b_Mo_fit 3 = .ok (.invokevirtual 109, 3) := by decide +kernel
theorem d_Mo_fit_6 : decode b_Mo_fit 6 = .ok (.ifCond .eq 15, 3) := by decide +kernel
theorem d_Mo_fit_9 : decode b_Mo_fit 9 = .ok (.aload_n 0, 1) := by decide +kernel
theorem d_Mo_fit_10 : decode b_Mo_fit 10 = .ok (.iload_n 2, 1) := by decide +kernel
theorem d_Mo_fit_11 : decode b_Mo_fit 11 = .ok (.invokevirtual 119, 3) := by decide +kernel
theorem d_Mo_fit_14 : decode b_Mo_fit 14 = .ok (.ifCond .eq 7, 3) := by decide +kernel
theorem d_Mo_fit_17 : decode b_Mo_fit 17 = .ok (.iconst 0, 1) := by decide +kernel
theorem d_Mo_fit_18 : decode b_Mo_fit 18 = .ok (.goto 4, 3) := by decide +kernel
theorem d_Mo_fit_21 : decode b_Mo_fit 21 = .ok (.iconst 1, 1) := by decide +kernel
theorem d_Mo_fit_22 : decode b_Mo_fit 22 = .ok (.invokevirtual 96, 3) := by decide +kernel
theorem d_Mo_fit_25 : decode b_Mo_fit 25 = .ok (.ifCond .eq 7, 3) := by decide +kernel
theorem d_Mo_fit_28 : decode b_Mo_fit 28 = .ok (.iconst 0, 1) := by decide +kernel
theorem d_Mo_fit_29 : decode b_Mo_fit 29 = .ok (.goto 9, 3) := by decide +kernel
theorem d_Mo_fit_32 : decode b_Mo_fit 32 = .ok (.aload_n 0, 1) := by decide +kernel
theorem d_Mo_fit_33 : decode b_Mo_fit 33 = .ok (.iload_n 1, 1) := by decide +kernel
theorem d_Mo_fit_34 : decode b_Mo_fit 34 = .ok (.iload_n 2, 1) := by decide +kernel
theorem d_Mo_fit_35 : decode b_Mo_fit 35 = .ok (.invokevirtual 134, 3) := by decide +kernel
theorem d_Mo_fit_38 : decode b_Mo_fit 38 = .ok (.ireturn, 1) := by decide +kernel
theorem d_Mo_length_0 : decode b_Mo_length 0 = .ok (.aload_n 0, 1) := by decide +kernel
theorem d_Mo_length_1 : decode b_Mo_length 1 = .ok (.iconst 0, 1) := by decide +kernel
theorem d_Mo_length_2 : decode b_Mo_length 2 = .ok (.putfield 76, 3) := by decide +kernel
theorem d_Mo_length_5 : decode b_Mo_length 5 = .ok (.aload_n 0, 1) := by decide +kernel
theorem d_Mo_length_6 : decode b_Mo_length 6 = .ok (.getfield 169, 3) := by decide +kernel
theorem d_Mo_length_9 : decode b_Mo_length 9 = .ok (.ireturn, 1) := by decide +kernel
theorem d_Mo_charAt_0 : decode b_Mo_charAt 0 = .ok (.aload_n 0, 1) := by decide +kernel
theorem d_Mo_charAt_1 : decode b_Mo_charAt 1 = .ok (.iconst 0, 1) := by decide +kernel
theorem d_Mo_charAt_2 : decode b_Mo_charAt 2 = .ok (.putfield 76, 3) := by decide +kernel
theorem d_Mo_charAt_5 : decode b_Mo_charAt 5 = .ok (.iload_n 1, 1) := by decide +kernel
theorem d_Mo_charAt_6 : decode b_Mo_charAt 6 = .ok (.ifCond .lt 11, 3) := by decide +kernel
theorem d_Mo_charAt_9 : decode b_Mo_charAt 9 = .ok (.iload_n 1, 1) := by decide +kernel
theorem d_Mo_charAt_10 : decode b_Mo_charAt 10 = .ok (.aload_n 0, 1) := by decide +kernel
theorem d_Mo_charAt_11 : decode b_Mo_charAt 11 = .ok (.getfield 169, 3) := by decide +kernel
theorem d_Mo_charAt_14 : decode b_Mo_charAt 14 = .ok (.if_icmp .lt 8, 3) := by decide +kernel
theorem d_Mo_charAt_17 : decode b_Mo_charAt 17 = .ok (.bipush 32, 2) := by decide +kernel
theorem d_Mo_charAt_19 : decode b_Mo_charAt 19 = .ok (.goto 10, 3) := by decide +kernel
theorem d_Mo_charAt_22 : decode b_Mo_charAt 22 = .ok (.aload_n 0, 1) := by decide +kernel
theorem d_Mo_charAt_23 : decode b_Mo_charAt 23 = .ok (.getfield 69, 3) := by decide +kernel
theorem d_Mo_charAt_26 : decode b_Mo_charAt 26 = .ok (.iload_n 1, 1) := by decide +kernel
theorem d_Mo_charAt_27 : decode b_Mo_charAt 27 = .ok (.iaload, 1) := by decide +kernel
theorem d_Mo_charAt_28 : decode b_Mo_charAt 28 = .ok (.i2c, 1) := by decide +kernel
theorem d_Mo_charAt_29 : decode b_Mo_charAt 29 = .ok (.ireturn, 1) := by decide +kernel
