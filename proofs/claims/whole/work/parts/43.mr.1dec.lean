theorem d_Mo_reckon_0 : decode b_Mo_reckon 0 = .ok (.aload_n 0, 1) := by decide +kernel
theorem d_Mo_reckon_1 : decode b_Mo_reckon 1 = .ok (.invokevirtual 159, 3) := by decide +kernel
theorem d_Mo_reckon_4 : decode b_Mo_reckon 4 = .ok (.aload_n 1, 1) := by decide +kernel
theorem d_Mo_reckon_5 : decode b_Mo_reckon 5 = .ok (.iconst 0, 1) := by decide +kernel
theorem d_Mo_reckon_6 : decode b_Mo_reckon 6 = .ok (.invokestatic 139, 3) := by decide +kernel
theorem d_Mo_reckon_9 : decode b_Mo_reckon 9 = .ok (.iconst 0, 1) := by decide +kernel
theorem d_Mo_reckon_10 : decode b_Mo_reckon 10 = .ok (.istore_n 2, 1) := by decide +kernel
theorem d_Mo_reckon_11 : decode b_Mo_reckon 11 = .ok (.iload_n 2, 1) := by decide +kernel
theorem d_Mo_reckon_12 : decode b_Mo_reckon 12 = .ok (.aload_n 0, 1) := by decide +kernel
theorem d_Mo_reckon_13 : decode b_Mo_reckon 13 = .ok (.invokevirtual 115, 3) := by decide +kernel
theorem d_Mo_reckon_16 : decode b_Mo_reckon 16 = .ok (.if_icmp .ge 33, 3) := by decide +kernel
theorem d_Mo_reckon_19 : decode b_Mo_reckon 19 = .ok (.aload_n 1, 1) := by decide +kernel
theorem d_Mo_reckon_20 : decode b_Mo_reckon 20 = .ok (.iconst 0, 1) := by decide +kernel
theorem d_Mo_reckon_21 : decode b_Mo_reckon 21 = .ok (.aload_n 0, 1) := by decide +kernel
theorem d_Mo_reckon_22 : decode b_Mo_reckon 22 = .ok (.getfield 41, 3) := by decide +kernel
theorem d_Mo_reckon_25 : decode b_Mo_reckon 25 = .ok (.bipush 8, 2) := by decide +kernel
theorem d_Mo_reckon_27 : decode b_Mo_reckon 27 = .ok (.bipush 64, 2) := by decide +kernel
theorem d_Mo_reckon_29 : decode b_Mo_reckon 29 = .ok (.aload_n 0, 1) := by decide +kernel
theorem d_Mo_reckon_30 : decode b_Mo_reckon 30 = .ok (.getfield 83, 3) := by decide +kernel
theorem d_Mo_reckon_33 : decode b_Mo_reckon 33 = .ok (.iconst 1, 1) := by decide +kernel
theorem d_Mo_reckon_34 : decode b_Mo_reckon 34 = .ok (.isub, 1) := by decide +kernel
theorem d_Mo_reckon_35 : decode b_Mo_reckon 35 = .ok (.imul, 1) := by decide +kernel
theorem d_Mo_reckon_36 : decode b_Mo_reckon 36 = .ok (.iload_n 2, 1) := by decide +kernel
theorem d_Mo_reckon_37 : decode b_Mo_reckon 37 = .ok (.iadd, 1) := by decide +kernel
theorem d_Mo_reckon_38 : decode b_Mo_reckon 38 = .ok (.imul, 1) := by decide +kernel
theorem d_Mo_reckon_39 : decode b_Mo_reckon 39 = .ok (.lconst 1, 1) := by decide +kernel
theorem d_Mo_reckon_40 : decode b_Mo_reckon 40 = .ok (.invokestatic 143, 3) := by decide +kernel
theorem d_Mo_reckon_43 : decode b_Mo_reckon 43 = .ok (.iinc 2 1, 3) := by decide +kernel
theorem d_Mo_reckon_46 : decode b_Mo_reckon 46 = .ok (.goto (-35), 3) := by decide +kernel
theorem d_Mo_reckon_49 : decode b_Mo_reckon 49 = .ok (.return_, 1) := by decide +kernel
theorem d_Mo_reckonAll_0 : decode b_Mo_reckonAll 0 = .ok (.aload_n 0, 1) := by decide +kernel
theorem d_Mo_reckonAll_1 : decode b_Mo_reckonAll 1 = .ok (.invokevirtual 162, 3) := by decide +kernel
theorem d_Mo_reckonAll_4 : decode b_Mo_reckonAll 4 = .ok (.aload_n 0, 1) := by decide +kernel
theorem d_Mo_reckonAll_5 : decode b_Mo_reckonAll 5 = .ok (.aload_n 0, 1) := by decide +kernel
theorem d_Mo_reckonAll_6 : decode b_Mo_reckonAll 6 = .ok (.getfield 48, 3) := by decide +kernel
theorem d_Mo_reckonAll_9 : decode b_Mo_reckonAll 9 = .ok (.invokevirtual 165, 3) := by decide +kernel
theorem d_Mo_reckonAll_12 : decode b_Mo_reckonAll 12 = .ok (.aload_n 0, 1) := by decide +kernel
theorem d_Mo_reckonAll_13 : decode b_Mo_reckonAll 13 = .ok (.invokevirtual 182, 3) := by decide +kernel
theorem d_Mo_reckonAll_16 : decode b_Mo_reckonAll 16 = .ok (.return_, 1) := by decide +kernel
theorem d_Mo_quotient_0 : decode b_Mo_quotient 0 = .ok (.aload_n 0, 1) := by decide +kernel
theorem d_Mo_quotient_1 : decode b_Mo_quotient 1 = .ok (.getfield 51, 3) := by decide +kernel
theorem d_Mo_quotient_4 : decode b_Mo_quotient 4 = .ok (.iconst 0, 1) := by decide +kernel
theorem d_Mo_quotient_5 : decode b_Mo_quotient 5 = .ok (.invokestatic 139, 3) := by decide +kernel
theorem d_Mo_quotient_8 : decode b_Mo_quotient 8 = .ok (.aload_n 0, 1) := by decide +kernel
theorem d_Mo_quotient_9 : decode b_Mo_quotient 9 = .ok (.getfield 51, 3) := by decide +kernel
theorem d_Mo_quotient_12 : decode b_Mo_quotient 12 = .ok (.iconst 0, 1) := by decide +kernel
theorem d_Mo_quotient_13 : decode b_Mo_quotient 13 = .ok (.aload_n 1, 1) := by decide +kernel
theorem d_Mo_quotient_14 : decode b_Mo_quotient 14 = .ok (.iconst 0, 1) := by decide +kernel
theorem d_Mo_quotient_15 : decode b_Mo_quotient 15 = .ok (.lload_n 2, 1) := by decide +kernel
theorem d_Mo_quotient_16 : decode b_Mo_quotient 16 = .ok (.invokestatic 143, 3) := by decide +kernel
theorem d_Mo_quotient_19 : decode b_Mo_quotient 19 = .ok (.iconst 0, 1) := by decide +kernel
theorem d_Mo_quotient_20 : decode b_Mo_quotient 20 = .ok (.istore 5, 2) := by decide +kernel
theorem d_Mo_quotient_22 : decode b_Mo_quotient 22 = .ok (.bipush 30, 2) := by decide +kernel
theorem d_Mo_quotient_24 : decode b_Mo_quotient 24 = .ok (.istore 6, 2) := by decide +kernel
theorem d_Mo_quotient_26 : decode b_Mo_quotient 26 = .ok (.iload 6, 2) := by decide +kernel
theorem d_Mo_quotient_28 : decode b_Mo_quotient 28 = .ok (.ifCond .lt 66, 3) := by decide +kernel
theorem d_Mo_quotient_31 : decode b_Mo_quotient 31 = .ok (.iload 5, 2) := by decide +kernel
theorem d_Mo_quotient_33 : decode b_Mo_quotient 33 = .ok (.i2l, 1) := by decide +kernel
theorem d_Mo_quotient_34 : decode b_Mo_quotient 34 = .ok (.lconst 1, 1) := by decide +kernel
theorem d_Mo_quotient_35 : decode b_Mo_quotient 35 = .ok (.iload 6, 2) := by decide +kernel
theorem d_Mo_quotient_37 : decode b_Mo_quotient 37 = .ok (.lshl, 1) := by decide +kernel
theorem d_Mo_quotient_38 : decode b_Mo_quotient 38 = .ok (.ladd, 1) := by decide +kernel
theorem d_Mo_quotient_39 : decode b_Mo_quotient 39 = .ok (.lstore 7, 2) := by decide +kernel
theorem d_Mo_quotient_41 : decode b_Mo_quotient 41 = .ok (.aload_n 0, 1) := by decide +kernel
theorem d_Mo_quotient_42 : decode b_Mo_quotient 42 = .ok (.getfield 54, 3) := by decide +kernel
theorem d_Mo_quotient_45 : decode b_Mo_quotient 45 = .ok (.iconst 0, 1) := by decide +kernel
theorem d_Mo_quotient_46 : decode b_Mo_quotient 46 = .ok (.invokestatic 139, 3) := by decide +kernel
theorem d_Mo_quotient_49 : decode b_Mo_quotient 49 = .ok (.aload_n 0, 1) := by decide +kernel
theorem d_Mo_quotient_50 : decode b_Mo_quotient 50 = .ok (.getfield 54, 3) := by decide +kernel
theorem d_Mo_quotient_53 : decode b_Mo_quotient 53 = .ok (.iconst 0, 1) := by decide +kernel
theorem d_Mo_quotient_54 : decode b_Mo_quotient 54 = .ok (.aload 4, 2) := by decide +kernel
theorem d_Mo_quotient_56 : decode b_Mo_quotient 56 = .ok (.iconst 0, 1) := by decide +kernel
theorem d_Mo_quotient_57 : decode b_Mo_quotient 57 = .ok (.lload 7, 2) := by decide +kernel
theorem d_Mo_quotient_59 : decode b_Mo_quotient 59 = .ok (.invokestatic 143, 3) := by decide +kernel
theorem d_Mo_quotient_62 : decode b_Mo_quotient 62 = .ok (.aload_n 0, 1) := by decide +kernel
theorem d_Mo_quotient_63 : decode b_Mo_quotient 63 = .ok (.getfield 54, 3) := by decide +kernel
theorem d_Mo_quotient_66 : decode b_Mo_quotient 66 = .ok (.iconst 0, 1) := by decide +kernel
theorem d_Mo_quotient_67 : decode b_Mo_quotient 67 = .ok (.aload_n 0, 1) := by decide +kernel
theorem d_Mo_quotient_68 : decode b_Mo_quotient 68 = .ok (.getfield 51, 3) := by decide +kernel
theorem d_Mo_quotient_71 : decode b_Mo_quotient 71 = .ok (.iconst 0, 1) := by decide +kernel
theorem d_Mo_quotient_72 : decode b_Mo_quotient 72 = .ok (.invokestatic 147, 3) := by decide +kernel
theorem d_Mo_quotient_75 : decode b_Mo_quotient 75 = .ok (.ifCond .gt 9, 3) := by decide +kernel
theorem d_Mo_quotient_78 : decode b_Mo_quotient 78 = .ok (.lload 7, 2) := by decide +kernel
theorem d_Mo_quotient_80 : decode b_Mo_quotient 80 = .ok (.l2i, 1) := by decide +kernel
theorem d_Mo_quotient_81 : decode b_Mo_quotient 81 = .ok (.goto 5, 3) := by decide +kernel
theorem d_Mo_quotient_84 : decode b_Mo_quotient 84 = .ok (.iload 5, 2) := by decide +kernel
theorem d_Mo_quotient_86 : decode b_Mo_quotient 86 = .ok (.istore 5, 2) := by decide +kernel
theorem d_Mo_quotient_88 : decode b_Mo_quotient 88 = .ok (.iinc 6 (-1), 3) := by decide +kernel
theorem d_Mo_quotient_91 : decode b_Mo_quotient 91 = .ok (.goto (-65), 3) := by decide +kernel
theorem d_Mo_quotient_94 : decode b_Mo_quotient 94 = .ok (.iload 5, 2) := by decide +kernel
theorem d_Mo_quotient_96 : decode b_Mo_quotient 96 = .ok (.ireturn, 1) := by decide +kernel
theorem d_Mo_isSame_0 : decode b_Mo_isSame 0 = .ok (.aload_n 0, 1) := by decide +kernel
theorem d_Mo_isSame_1 : decode b_Mo_isSame 1 = .ok (.iload_n 1, 1) := by decide +kernel
theorem d_Mo_isSame_2 : decode b_Mo_isSame 2 = .ok (.iconst 0, 1) := by decide +kernel
theorem d_Mo_isSame_3 : decode b_Mo_isSame 3 = .ok (.iload_n 3, 1) := by decide +kernel
theorem d_Mo_isSame_4 : decode b_Mo_isSame 4 = .ok (.invokevirtual 122, 3) := by decide +kernel
theorem d_Mo_isSame_7 : decode b_Mo_isSame 7 = .ok (.istore 4, 2) := by decide +kernel
theorem d_Mo_isSame_9 : decode b_Mo_isSame 9 = .ok (.aload_n 0, 1) := by decide +kernel
theorem d_Mo_isSame_10 : decode b_Mo_isSame 10 = .ok (.iload_n 1, 1) := by decide +kernel
theorem d_Mo_isSame_11 : decode b_Mo_isSame 11 = .ok (.iconst 1, 1) := by decide +kernel
theorem d_Mo_isSame_12 : decode b_Mo_isSame 12 = .ok (.iload_n 3, 1) := by decide +kernel
theorem d_Mo_isSame_13 : decode b_Mo_isSame 13 = .ok (.invokevirtual 122, 3) := by decide +kernel
theorem d_Mo_isSame_16 : decode b_Mo_isSame 16 = .ok (.istore 5, 2) := by decide +kernel
theorem d_Mo_isSame_18 : decode b_Mo_isSame 18 = .ok (.aload_n 0, 1) := by decide +kernel
theorem d_Mo_isSame_19 : decode b_Mo_isSame 19 = .ok (.iload_n 2, 1) := by decide +kernel
theorem d_Mo_isSame_20 : decode b_Mo_isSame 20 = .ok (.iconst 0, 1) := by decide +kernel
theorem d_Mo_isSame_21 : decode b_Mo_isSame 21 = .ok (.iload_n 3, 1) := by decide +kernel
theorem d_Mo_isSame_22 : decode b_Mo_isSame 22 = .ok (.invokevirtual 122, 3) := by decide +kernel
theorem d_Mo_isSame_25 : decode b_Mo_isSame 25 = .ok (.istore 6, 2) := by decide +kernel
theorem d_Mo_isSame_27 : decode b_Mo_isSame 27 = .ok (.aload_n 0, 1) := by decide +kernel
theorem d_Mo_isSame_28 : decode b_Mo_isSame 28 = .ok (.iload_n 2, 1) := by decide +kernel
theorem d_Mo_isSame_29 : decode b_Mo_isSame 29 = .ok (.iconst 1, 1) := by decide +kernel
theorem d_Mo_isSame_30 : decode b_Mo_isSame 30 = .ok (.iload_n 3, 1) := by decide +kernel
theorem d_Mo_isSame_31 : decode b_Mo_isSame 31 = .ok (.invokevirtual 122, 3) := by decide +kernel
theorem d_Mo_isSame_34 : decode b_Mo_isSame 34 = .ok (.istore 7, 2) := by decide +kernel
theorem d_Mo_isSame_36 : decode b_Mo_isSame 36 = .ok (.iload 4, 2) := by decide +kernel
theorem d_Mo_isSame_38 : decode b_Mo_isSame 38 = .ok (.iload 6, 2) := by decide +kernel
theorem d_Mo_isSame_40 : decode b_Mo_isSame 40 = .ok (.if_icmp .eq 24, 3) := by decide +kernel
theorem d_Mo_isSame_43 : decode b_Mo_isSame 43 = .ok (.iload 4, 2) := by decide +kernel
theorem d_Mo_isSame_45 : decode b_Mo_isSame 45 = .ok (.iload 7, 2) := by decide +kernel
theorem d_Mo_isSame_47 : decode b_Mo_isSame 47 = .ok (.if_icmp .eq 17, 3) := by decide +kernel
theorem d_Mo_isSame_50 : decode b_Mo_isSame 50 = .ok (.iload 5, 2) := by decide +kernel
theorem d_Mo_isSame_52 : decode b_Mo_isSame 52 = .ok (.iload 6, 2) := by decide +kernel
theorem d_Mo_isSame_54 : decode b_Mo_isSame 54 = .ok (.if_icmp .eq 10, 3) := by decide +kernel
theorem d_Mo_isSame_57 : decode b_Mo_isSame 57 = .ok (.iload 5, 2) := by decide +kernel
theorem d_Mo_isSame_59 : decode b_Mo_isSame 59 = .ok (.iload 7, 2) := by decide +kernel
theorem d_Mo_isSame_61 : decode b_Mo_isSame 61 = .ok (.if_icmp .ne 7, 3) := by decide +kernel
theorem d_Mo_isSame_64 : decode b_Mo_isSame 64 = .ok (.iconst 1, 1) := by decide +kernel
theorem d_Mo_isSame_65 : decode b_Mo_isSame 65 = .ok (.goto 4, 3) := by decide +kernel
theorem d_Mo_isSame_68 : decode b_Mo_isSame 68 = .ok (.iconst 0, 1) := by decide +kernel
theorem d_Mo_isSame_69 : decode b_Mo_isSame 69 = .ok (.ireturn, 1) := by decide +kernel
theorem d_Mo_chance_0 : decode b_Mo_chance 0 = .ok (.aload_n 0, 1) := by decide +kernel
theorem d_Mo_chance_1 : decode b_Mo_chance 1 = .ok (.invokevirtual 185, 3) := by decide +kernel
theorem d_Mo_chance_4 : decode b_Mo_chance 4 = .ok (.aload_n 0, 1) := by decide +kernel
theorem d_Mo_chance_5 : decode b_Mo_chance 5 = .ok (.getfield 48, 3) := by decide +kernel
theorem d_Mo_chance_8 : decode b_Mo_chance 8 = .ok (.invokestatic 174, 3) := by decide +kernel
theorem d_Mo_chance_11 : decode b_Mo_chance 11 = .ok (.ifCond .eq 5, 3) := by decide +kernel
theorem d_Mo_chance_14 : decode b_Mo_chance 14 = .ok (.iconst (-1), 1) := by decide +kernel
theorem d_Mo_chance_15 : decode b_Mo_chance 15 = .ok (.ireturn, 1) := by decide +kernel
theorem d_Mo_chance_16 : decode b_Mo_chance 16 = .ok (.aload_n 0, 1) := by decide +kernel
theorem d_Mo_chance_17 : decode b_Mo_chance 17 = .ok (.getfield 57, 3) := by decide +kernel
theorem d_Mo_chance_20 : decode b_Mo_chance 20 = .ok (.iconst 0, 1) := by decide +kernel
theorem d_Mo_chance_21 : decode b_Mo_chance 21 = .ok (.invokestatic 139, 3) := by decide +kernel
theorem d_Mo_chance_24 : decode b_Mo_chance 24 = .ok (.iconst 0, 1) := by decide +kernel
theorem d_Mo_chance_25 : decode b_Mo_chance 25 = .ok (.istore 5, 2) := by decide +kernel
theorem d_Mo_chance_27 : decode b_Mo_chance 27 = .ok (.iload 5, 2) := by decide +kernel
theorem d_Mo_chance_29 : decode b_Mo_chance 29 = .ok (.aload_n 0, 1) := by decide +kernel
theorem d_Mo_chance_30 : decode b_Mo_chance 30 = .ok (.invokevirtual 115, 3) := by decide +kernel
theorem d_Mo_chance_33 : decode b_Mo_chance 33 = .ok (.if_icmp .ge 93, 3) := by decide +kernel
theorem d_Mo_chance_36 : decode b_Mo_chance 36 = .ok (.iload_n 2, 1) := by decide +kernel
theorem d_Mo_chance_37 : decode b_Mo_chance 37 = .ok (.ifCond .lt 21, 3) := by decide +kernel
theorem d_Mo_chance_40 : decode b_Mo_chance 40 = .ok (.iload 5, 2) := by decide +kernel
theorem d_Mo_chance_42 : decode b_Mo_chance 42 = .ok (.iload_n 2, 1) := by decide +kernel
theorem d_Mo_chance_43 : decode b_Mo_chance 43 = .ok (.ishr, 1) := by decide +kernel
theorem d_Mo_chance_44 : decode b_Mo_chance 44 = .ok (.iconst 1, 1) := by decide +kernel
theorem d_Mo_chance_45 : decode b_Mo_chance 45 = .ok (.iand, 1) := by decide +kernel
theorem d_Mo_chance_46 : decode b_Mo_chance 46 = .ok (.iconst 1, 1) := by decide +kernel
theorem d_Mo_chance_47 : decode b_Mo_chance 47 = .ok (.if_icmp .ne 7, 3) := by decide +kernel
theorem d_Mo_chance_50 : decode b_Mo_chance 50 = .ok (.iconst 1, 1) := by decide +kernel
theorem d_Mo_chance_51 : decode b_Mo_chance 51 = .ok (.goto 16, 3) := by decide +kernel
theorem d_Mo_chance_54 : decode b_Mo_chance 54 = .ok (.iconst 0, 1) := by decide +kernel
theorem d_Mo_chance_55 : decode b_Mo_chance 55 = .ok (.goto 12, 3) := by decide +kernel
theorem d_Mo_chance_58 : decode b_Mo_chance 58 = .ok (.aload_n 0, 1) := by decide +kernel
theorem d_Mo_chance_59 : decode b_Mo_chance 59 = .ok (.iload_n 3, 1) := by decide +kernel
theorem d_Mo_chance_60 : decode b_Mo_chance 60 = .ok (.iload 4, 2) := by decide +kernel
theorem d_Mo_chance_62 : decode b_Mo_chance 62 = .ok (.iload 5, 2) := by decide +kernel
theorem d_Mo_chance_64 : decode b_Mo_chance 64 = .ok (.invokevirtual 188, 3) := by decide +kernel
theorem d_Mo_chance_67 : decode b_Mo_chance 67 = .ok (.istore 6, 2) := by decide +kernel
theorem d_Mo_chance_69 : decode b_Mo_chance 69 = .ok (.iload 6, 2) := by decide +kernel
theorem d_Mo_chance_71 : decode b_Mo_chance 71 = .ok (.ifCond .eq 49, 3) := by decide +kernel
theorem d_Mo_chance_74 : decode b_Mo_chance 74 = .ok (.aload_n 0, 1) := by decide +kernel
theorem d_Mo_chance_75 : decode b_Mo_chance 75 = .ok (.aload_n 0, 1) := by decide +kernel
theorem d_Mo_chance_76 : decode b_Mo_chance 76 = .ok (.getfield 41, 3) := by decide +kernel
theorem d_Mo_chance_79 : decode b_Mo_chance 79 = .ok (.bipush 8, 2) := by decide +kernel
theorem d_Mo_chance_81 : decode b_Mo_chance 81 = .ok (.bipush 64, 2) := by decide +kernel
theorem d_Mo_chance_83 : decode b_Mo_chance 83 = .ok (.iload_n 1, 1) := by decide +kernel
theorem d_Mo_chance_84 : decode b_Mo_chance 84 = .ok (.imul, 1) := by decide +kernel
theorem d_Mo_chance_85 : decode b_Mo_chance 85 = .ok (.iload 5, 2) := by decide +kernel
theorem d_Mo_chance_87 : decode b_Mo_chance 87 = .ok (.iadd, 1) := by decide +kernel
theorem d_Mo_chance_88 : decode b_Mo_chance 88 = .ok (.imul, 1) := by decide +kernel
theorem d_Mo_chance_89 : decode b_Mo_chance 89 = .ok (.aload_n 0, 1) := by decide +kernel
theorem d_Mo_chance_90 : decode b_Mo_chance 90 = .ok (.getfield 45, 3) := by decide +kernel
theorem d_Mo_chance_93 : decode b_Mo_chance 93 = .ok (.bipush 8, 2) := by decide +kernel
theorem d_Mo_chance_95 : decode b_Mo_chance 95 = .ok (.bipush 64, 2) := by decide +kernel
theorem d_Mo_chance_97 : decode b_Mo_chance 97 = .ok (.iload_n 1, 1) := by decide +kernel
theorem d_Mo_chance_98 : decode b_Mo_chance 98 = .ok (.imul, 1) := by decide +kernel
theorem d_Mo_chance_99 : decode b_Mo_chance 99 = .ok (.iload 5, 2) := by decide +kernel
theorem d_Mo_chance_101 : decode b_Mo_chance 101 = .ok (.iadd, 1) := by decide +kernel
theorem d_Mo_chance_102 : decode b_Mo_chance 102 = .ok (.imul, 1) := by decide +kernel
theorem d_Mo_chance_103 : decode b_Mo_chance 103 = .ok (.invokevirtual 192, 3) := by decide +kernel
theorem d_Mo_chance_106 : decode b_Mo_chance 106 = .ok (.aload_n 0, 1) := by decide +kernel
theorem d_Mo_chance_107 : decode b_Mo_chance 107 = .ok (.getfield 57, 3) := by decide +kernel
theorem d_Mo_chance_110 : decode b_Mo_chance 110 = .ok (.iconst 0, 1) := by decide +kernel
theorem d_Mo_chance_111 : decode b_Mo_chance 111 = .ok (.aload_n 0, 1) := by decide +kernel
theorem d_Mo_chance_112 : decode b_Mo_chance 112 = .ok (.getfield 60, 3) := by decide +kernel
theorem d_Mo_chance_115 : decode b_Mo_chance 115 = .ok (.iconst 0, 1) := by decide +kernel
theorem d_Mo_chance_116 : decode b_Mo_chance 116 = .ok (.lconst 1, 1) := by decide +kernel
theorem d_Mo_chance_117 : decode b_Mo_chance 117 = .ok (.invokestatic 143, 3) := by decide +kernel
theorem d_Mo_chance_120 : decode b_Mo_chance 120 = .ok (.iinc 5 1, 3) := by decide +kernel
theorem d_Mo_chance_123 : decode b_Mo_chance 123 = .ok (.goto (-96), 3) := by decide +kernel
theorem d_Mo_chance_126 : decode b_Mo_chance 126 = .ok (.aload_n 0, 1) := by decide +kernel
theorem d_Mo_chance_127 : decode b_Mo_chance 127 = .ok (.aload_n 0, 1) := by decide +kernel
theorem d_Mo_chance_128 : decode b_Mo_chance 128 = .ok (.getfield 57, 3) := by decide +kernel
theorem d_Mo_chance_131 : decode b_Mo_chance 131 = .ok (.ldc2_w 196, 3) := by decide +kernel
theorem d_Mo_chance_134 : decode b_Mo_chance 134 = .ok (.aload_n 0, 1) := by decide +kernel
theorem d_Mo_chance_135 : decode b_Mo_chance 135 = .ok (.getfield 48, 3) := by decide +kernel
theorem d_Mo_chance_138 : decode b_Mo_chance 138 = .ok (.invokevirtual 178, 3) := by decide +kernel
theorem d_Mo_chance_141 : decode b_Mo_chance 141 = .ok (.ireturn, 1) := by decide +kernel
