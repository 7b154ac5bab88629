theorem d_Mo_turned_0 : decode b_Mo_turned 0 = .ok (.aload_n 0, 1) := by decide +kernel
theorem d_Mo_turned_1 : decode b_Mo_turned 1 = .ok (.iload_n 1, 1) := by decide +kernel
theorem d_Mo_turned_2 : decode b_Mo_turned 2 = .ok (.invokevirtual 109, 3) := by decide +kernel
theorem d_Mo_turned_5 : decode b_Mo_turned 5 = .ok (.ifCond .eq 21, 3) := by decide +kernel
theorem d_Mo_turned_8 : decode b_Mo_turned 8 = .ok (.iload_n 2, 1) := by decide +kernel
theorem d_Mo_turned_9 : decode b_Mo_turned 9 = .ok (.ifCond .lt 17, 3) := by decide +kernel
theorem d_Mo_turned_12 : decode b_Mo_turned 12 = .ok (.iload_n 2, 1) := by decide +kernel
theorem d_Mo_turned_13 : decode b_Mo_turned 13 = .ok (.iconst 2, 1) := by decide +kernel
theorem d_Mo_turned_14 : decode b_Mo_turned 14 = .ok (.aload_n 0, 1) := by decide +kernel
theorem d_Mo_turned_15 : decode b_Mo_turned 15 = .ok (.getfield 86, 3) := by decide +kernel
theorem d_Mo_turned_18 : decode b_Mo_turned 18 = .ok (.imul, 1) := by decide +kernel
theorem d_Mo_turned_19 : decode b_Mo_turned 19 = .ok (.if_icmp .ge 7, 3) := by decide +kernel
theorem d_Mo_turned_22 : decode b_Mo_turned 22 = .ok (.iconst 1, 1) := by decide +kernel
theorem d_Mo_turned_23 : decode b_Mo_turned 23 = .ok (.goto 4, 3) := by decide +kernel
theorem d_Mo_turned_26 : decode b_Mo_turned 26 = .ok (.iconst 0, 1) := by decide +kernel
theorem d_Mo_turned_27 : decode b_Mo_turned 27 = .ok (.istore_n 3, 1) := by decide +kernel
theorem d_Mo_turned_28 : decode b_Mo_turned 28 = .ok (.aload_n 0, 1) := by decide +kernel
theorem d_Mo_turned_29 : decode b_Mo_turned 29 = .ok (.iload_n 3, 1) := by decide +kernel
theorem d_Mo_turned_30 : decode b_Mo_turned 30 = .ok (.ifCond .eq 7, 3) := by decide +kernel
theorem d_Mo_turned_33 : decode b_Mo_turned 33 = .ok (.iconst 0, 1) := by decide +kernel
theorem d_Mo_turned_34 : decode b_Mo_turned 34 = .ok (.goto 4, 3) := by decide +kernel
theorem d_Mo_turned_37 : decode b_Mo_turned 37 = .ok (.iconst 1, 1) := by decide +kernel
theorem d_Mo_turned_38 : decode b_Mo_turned 38 = .ok (.invokevirtual 96, 3) := by decide +kernel
theorem d_Mo_turned_41 : decode b_Mo_turned 41 = .ok (.ifCond .eq 7, 3) := by decide +kernel
theorem d_Mo_turned_44 : decode b_Mo_turned 44 = .ok (.iconst 0, 1) := by decide +kernel
theorem d_Mo_turned_45 : decode b_Mo_turned 45 = .ok (.goto 11, 3) := by decide +kernel
theorem d_Mo_turned_48 : decode b_Mo_turned 48 = .ok (.aload_n 0, 1) := by decide +kernel
theorem d_Mo_turned_49 : decode b_Mo_turned 49 = .ok (.iload_n 1, 1) := by decide +kernel
theorem d_Mo_turned_50 : decode b_Mo_turned 50 = .ok (.iload_n 2, 1) := by decide +kernel
theorem d_Mo_turned_51 : decode b_Mo_turned 51 = .ok (.iconst 0, 1) := by decide +kernel
theorem d_Mo_turned_52 : decode b_Mo_turned 52 = .ok (.iconst 0, 1) := by decide +kernel
theorem d_Mo_turned_53 : decode b_Mo_turned 53 = .ok (.invokevirtual 198, 3) := by decide +kernel
theorem d_Mo_turned_56 : decode b_Mo_turned 56 = .ok (.ireturn, 1) := by decide +kernel
theorem d_Mo_shared_0 : decode b_Mo_shared 0 = .ok (.aload_n 0, 1) := by decide +kernel
theorem d_Mo_shared_1 : decode b_Mo_shared 1 = .ok (.iload_n 1, 1) := by decide +kernel
theorem d_Mo_shared_2 : decode b_Mo_shared 2 = .ok (.invokevirtual 109, 3) := by decide +kernel
theorem d_Mo_shared_5 : decode b_Mo_shared 5 = .ok (.ifCond .eq 23, 3) := by decide +kernel
theorem d_Mo_shared_8 : decode b_Mo_shared 8 = .ok (.aload_n 0, 1) := by decide +kernel
theorem d_Mo_shared_9 : decode b_Mo_shared 9 = .ok (.iload_n 2, 1) := by decide +kernel
theorem d_Mo_shared_10 : decode b_Mo_shared 10 = .ok (.invokevirtual 103, 3) := by decide +kernel
theorem d_Mo_shared_13 : decode b_Mo_shared 13 = .ok (.ifCond .eq 15, 3) := by decide +kernel
theorem d_Mo_shared_16 : decode b_Mo_shared 16 = .ok (.aload_n 0, 1) := by decide +kernel
theorem d_Mo_shared_17 : decode b_Mo_shared 17 = .ok (.iload_n 3, 1) := by decide +kernel
theorem d_Mo_shared_18 : decode b_Mo_shared 18 = .ok (.invokevirtual 103, 3) := by decide +kernel
theorem d_Mo_shared_21 : decode b_Mo_shared 21 = .ok (.ifCond .eq 7, 3) := by decide +kernel
theorem d_Mo_shared_24 : decode b_Mo_shared 24 = .ok (.iconst 1, 1) := by decide +kernel
theorem d_Mo_shared_25 : decode b_Mo_shared 25 = .ok (.goto 4, 3) := by decide +kernel
theorem d_Mo_shared_28 : decode b_Mo_shared 28 = .ok (.iconst 0, 1) := by decide +kernel
theorem d_Mo_shared_29 : decode b_Mo_shared 29 = .ok (.istore 4, 2) := by decide +kernel
theorem d_Mo_shared_31 : decode b_Mo_shared 31 = .ok (.aload_n 0, 1) := by decide +kernel
theorem d_Mo_shared_32 : decode b_Mo_shared 32 = .ok (.iload 4, 2) := by decide +kernel
theorem d_Mo_shared_34 : decode b_Mo_shared 34 = .ok (.ifCond .eq 7, 3) := by decide +kernel
theorem d_Mo_shared_37 : decode b_Mo_shared 37 = .ok (.iconst 0, 1) := by decide +kernel
theorem d_Mo_shared_38 : decode b_Mo_shared 38 = .ok (.goto 4, 3) := by decide +kernel
theorem d_Mo_shared_41 : decode b_Mo_shared 41 = .ok (.iconst 1, 1) := by decide +kernel
theorem d_Mo_shared_42 : decode b_Mo_shared 42 = .ok (.invokevirtual 96, 3) := by decide +kernel
theorem d_Mo_shared_45 : decode b_Mo_shared 45 = .ok (.ifCond .eq 7, 3) := by decide +kernel
theorem d_Mo_shared_48 : decode b_Mo_shared 48 = .ok (.iconst 0, 1) := by decide +kernel
theorem d_Mo_shared_49 : decode b_Mo_shared 49 = .ok (.goto 11, 3) := by decide +kernel
theorem d_Mo_shared_52 : decode b_Mo_shared 52 = .ok (.aload_n 0, 1) := by decide +kernel
theorem d_Mo_shared_53 : decode b_Mo_shared 53 = .ok (.iload_n 1, 1) := by decide +kernel
theorem d_Mo_shared_54 : decode b_Mo_shared 54 = .ok (.iconst (-1), 1) := by decide +kernel
theorem d_Mo_shared_55 : decode b_Mo_shared 55 = .ok (.iload_n 2, 1) := by decide +kernel
theorem d_Mo_shared_56 : decode b_Mo_shared 56 = .ok (.iload_n 3, 1) := by decide +kernel
theorem d_Mo_shared_57 : decode b_Mo_shared 57 = .ok (.invokevirtual 198, 3) := by decide +kernel
theorem d_Mo_shared_60 : decode b_Mo_shared 60 = .ok (.ireturn, 1) := by decide +kernel
theorem d_Mo_likely_0 : decode b_Mo_likely 0 = .ok (.aload_n 0, 1) := by decide +kernel
theorem d_Mo_likely_1 : decode b_Mo_likely 1 = .ok (.aload_n 0, 1) := by decide +kernel
theorem d_Mo_likely_2 : decode b_Mo_likely 2 = .ok (.iload_n 1, 1) := by decide +kernel
theorem d_Mo_likely_3 : decode b_Mo_likely 3 = .ok (.invokevirtual 109, 3) := by decide +kernel
theorem d_Mo_likely_6 : decode b_Mo_likely 6 = .ok (.ifCond .eq 7, 3) := by decide +kernel
theorem d_Mo_likely_9 : decode b_Mo_likely 9 = .ok (.iconst 0, 1) := by decide +kernel
theorem d_Mo_likely_10 : decode b_Mo_likely 10 = .ok (.goto 4, 3) := by decide +kernel
theorem d_Mo_likely_13 : decode b_Mo_likely 13 = .ok (.iconst 1, 1) := by decide +kernel
theorem d_Mo_likely_14 : decode b_Mo_likely 14 = .ok (.invokevirtual 96, 3) := by decide +kernel
theorem d_Mo_likely_17 : decode b_Mo_likely 17 = .ok (.ifCond .eq 5, 3) := by decide +kernel
theorem d_Mo_likely_20 : decode b_Mo_likely 20 = .ok (.iconst 0, 1) := by decide +kernel
theorem d_Mo_likely_21 : decode b_Mo_likely 21 = .ok (.ireturn, 1) := by decide +kernel
theorem d_Mo_likely_22 : decode b_Mo_likely 22 = .ok (.aload_n 0, 1) := by decide +kernel
theorem d_Mo_likely_23 : decode b_Mo_likely 23 = .ok (.invokevirtual 185, 3) := by decide +kernel
theorem d_Mo_likely_26 : decode b_Mo_likely 26 = .ok (.aload_n 0, 1) := by decide +kernel
theorem d_Mo_likely_27 : decode b_Mo_likely 27 = .ok (.getfield 48, 3) := by decide +kernel
theorem d_Mo_likely_30 : decode b_Mo_likely 30 = .ok (.invokestatic 174, 3) := by decide +kernel
theorem d_Mo_likely_33 : decode b_Mo_likely 33 = .ok (.ifCond .eq 5, 3) := by decide +kernel
theorem d_Mo_likely_36 : decode b_Mo_likely 36 = .ok (.iconst (-1), 1) := by decide +kernel
theorem d_Mo_likely_37 : decode b_Mo_likely 37 = .ok (.ireturn, 1) := by decide +kernel
theorem d_Mo_likely_38 : decode b_Mo_likely 38 = .ok (.iconst 0, 1) := by decide +kernel
theorem d_Mo_likely_39 : decode b_Mo_likely 39 = .ok (.istore_n 2, 1) := by decide +kernel
theorem d_Mo_likely_40 : decode b_Mo_likely 40 = .ok (.iconst 0, 1) := by decide +kernel
theorem d_Mo_likely_41 : decode b_Mo_likely 41 = .ok (.istore_n 3, 1) := by decide +kernel
theorem d_Mo_likely_42 : decode b_Mo_likely 42 = .ok (.iload_n 3, 1) := by decide +kernel
theorem d_Mo_likely_43 : decode b_Mo_likely 43 = .ok (.aload_n 0, 1) := by decide +kernel
theorem d_Mo_likely_44 : decode b_Mo_likely 44 = .ok (.invokevirtual 115, 3) := by decide +kernel
theorem d_Mo_likely_47 : decode b_Mo_likely 47 = .ok (.if_icmp .ge 83, 3) := by decide +kernel
theorem d_Mo_likely_50 : decode b_Mo_likely 50 = .ok (.aload_n 0, 1) := by decide +kernel
theorem d_Mo_likely_51 : decode b_Mo_likely 51 = .ok (.aload_n 0, 1) := by decide +kernel
theorem d_Mo_likely_52 : decode b_Mo_likely 52 = .ok (.getfield 41, 3) := by decide +kernel
theorem d_Mo_likely_55 : decode b_Mo_likely 55 = .ok (.bipush 8, 2) := by decide +kernel
theorem d_Mo_likely_57 : decode b_Mo_likely 57 = .ok (.bipush 64, 2) := by decide +kernel
theorem d_Mo_likely_59 : decode b_Mo_likely 59 = .ok (.iload_n 1, 1) := by decide +kernel
theorem d_Mo_likely_60 : decode b_Mo_likely 60 = .ok (.imul, 1) := by decide +kernel
theorem d_Mo_likely_61 : decode b_Mo_likely 61 = .ok (.iload_n 3, 1) := by decide +kernel
theorem d_Mo_likely_62 : decode b_Mo_likely 62 = .ok (.iadd, 1) := by decide +kernel
theorem d_Mo_likely_63 : decode b_Mo_likely 63 = .ok (.imul, 1) := by decide +kernel
theorem d_Mo_likely_64 : decode b_Mo_likely 64 = .ok (.aload_n 0, 1) := by decide +kernel
theorem d_Mo_likely_65 : decode b_Mo_likely 65 = .ok (.getfield 45, 3) := by decide +kernel
theorem d_Mo_likely_68 : decode b_Mo_likely 68 = .ok (.bipush 8, 2) := by decide +kernel
theorem d_Mo_likely_70 : decode b_Mo_likely 70 = .ok (.bipush 64, 2) := by decide +kernel
theorem d_Mo_likely_72 : decode b_Mo_likely 72 = .ok (.iload_n 1, 1) := by decide +kernel
theorem d_Mo_likely_73 : decode b_Mo_likely 73 = .ok (.imul, 1) := by decide +kernel
theorem d_Mo_likely_74 : decode b_Mo_likely 74 = .ok (.iload_n 3, 1) := by decide +kernel
theorem d_Mo_likely_75 : decode b_Mo_likely 75 = .ok (.iadd, 1) := by decide +kernel
theorem d_Mo_likely_76 : decode b_Mo_likely 76 = .ok (.imul, 1) := by decide +kernel
theorem d_Mo_likely_77 : decode b_Mo_likely 77 = .ok (.invokevirtual 192, 3) := by decide +kernel
theorem d_Mo_likely_80 : decode b_Mo_likely 80 = .ok (.iload_n 3, 1) := by decide +kernel
theorem d_Mo_likely_81 : decode b_Mo_likely 81 = .ok (.ifCond .eq 19, 3) := by decide +kernel
theorem d_Mo_likely_84 : decode b_Mo_likely 84 = .ok (.aload_n 0, 1) := by decide +kernel
theorem d_Mo_likely_85 : decode b_Mo_likely 85 = .ok (.getfield 60, 3) := by decide +kernel
theorem d_Mo_likely_88 : decode b_Mo_likely 88 = .ok (.iconst 0, 1) := by decide +kernel
theorem d_Mo_likely_89 : decode b_Mo_likely 89 = .ok (.aload_n 0, 1) := by decide +kernel
theorem d_Mo_likely_90 : decode b_Mo_likely 90 = .ok (.getfield 51, 3) := by decide +kernel
theorem d_Mo_likely_93 : decode b_Mo_likely 93 = .ok (.iconst 0, 1) := by decide +kernel
theorem d_Mo_likely_94 : decode b_Mo_likely 94 = .ok (.invokestatic 147, 3) := by decide +kernel
theorem d_Mo_likely_97 : decode b_Mo_likely 97 = .ok (.ifCond .le 27, 3) := by decide +kernel
theorem d_Mo_likely_100 : decode b_Mo_likely 100 = .ok (.iload_n 3, 1) := by decide +kernel
theorem d_Mo_likely_101 : decode b_Mo_likely 101 = .ok (.istore_n 2, 1) := by decide +kernel
theorem d_Mo_likely_102 : decode b_Mo_likely 102 = .ok (.aload_n 0, 1) := by decide +kernel
theorem d_Mo_likely_103 : decode b_Mo_likely 103 = .ok (.getfield 51, 3) := by decide +kernel
theorem d_Mo_likely_106 : decode b_Mo_likely 106 = .ok (.iconst 0, 1) := by decide +kernel
theorem d_Mo_likely_107 : decode b_Mo_likely 107 = .ok (.invokestatic 139, 3) := by decide +kernel
theorem d_Mo_likely_110 : decode b_Mo_likely 110 = .ok (.aload_n 0, 1) := by decide +kernel
theorem d_Mo_likely_111 : decode b_Mo_likely 111 = .ok (.getfield 51, 3) := by decide +kernel
theorem d_Mo_likely_114 : decode b_Mo_likely 114 = .ok (.iconst 0, 1) := by decide +kernel
theorem d_Mo_likely_115 : decode b_Mo_likely 115 = .ok (.aload_n 0, 1) := by decide +kernel
theorem d_Mo_likely_116 : decode b_Mo_likely 116 = .ok (.getfield 60, 3) := by decide +kernel
theorem d_Mo_likely_119 : decode b_Mo_likely 119 = .ok (.iconst 0, 1) := by decide +kernel
theorem d_Mo_likely_120 : decode b_Mo_likely 120 = .ok (.lconst 1, 1) := by decide +kernel
theorem d_Mo_likely_121 : decode b_Mo_likely 121 = .ok (.invokestatic 143, 3) := by decide +kernel
theorem d_Mo_likely_124 : decode b_Mo_likely 124 = .ok (.iinc 3 1, 3) := by decide +kernel
theorem d_Mo_likely_127 : decode b_Mo_likely 127 = .ok (.goto (-85), 3) := by decide +kernel
theorem d_Mo_likely_130 : decode b_Mo_likely 130 = .ok (.iload_n 2, 1) := by decide +kernel
theorem d_Mo_likely_131 : decode b_Mo_likely 131 = .ok (.ireturn, 1) := by decide +kernel
theorem d_Mo_best_0 : decode b_Mo_best 0 = .ok (.aload_n 0, 1) := by decide +kernel
theorem d_Mo_best_1 : decode b_Mo_best 1 = .ok (.aload_n 0, 1) := by decide +kernel
theorem d_Mo_best_2 : decode b_Mo_best 2 = .ok (.iload_n 1, 1) := by decide +kernel
theorem d_Mo_best_3 : decode b_Mo_best 3 = .ok (.invokevirtual 106, 3) := by decide +kernel
theorem d_Mo_best_6 : decode b_Mo_best 6 = .ok (.ifCond .eq 7, 3) := by decide +kernel
theorem d_Mo_best_9 : decode b_Mo_best 9 = .ok (.iconst 0, 1) := by decide +kernel
theorem d_Mo_best_10 : decode b_Mo_best 10 = .ok (.goto 4, 3) := by decide +kernel
theorem d_Mo_best_13 : decode b_Mo_best 13 = .ok (.iconst 1, 1) := by decide +kernel
theorem d_Mo_best_14 : decode b_Mo_best 14 = .ok (.invokevirtual 96, 3) := by decide +kernel
theorem d_Mo_best_17 : decode b_Mo_best 17 = .ok (.ifCond .eq 5, 3) := by decide +kernel
theorem d_Mo_best_20 : decode b_Mo_best 20 = .ok (.iconst 0, 1) := by decide +kernel
theorem d_Mo_best_21 : decode b_Mo_best 21 = .ok (.ireturn, 1) := by decide +kernel
theorem d_Mo_best_22 : decode b_Mo_best 22 = .ok (.aload_n 0, 1) := by decide +kernel
theorem d_Mo_best_23 : decode b_Mo_best 23 = .ok (.invokevirtual 162, 3) := by decide +kernel
theorem d_Mo_best_26 : decode b_Mo_best 26 = .ok (.iconst 0, 1) := by decide +kernel
theorem d_Mo_best_27 : decode b_Mo_best 27 = .ok (.istore_n 2, 1) := by decide +kernel
theorem d_Mo_best_28 : decode b_Mo_best 28 = .ok (.iconst 0, 1) := by decide +kernel
theorem d_Mo_best_29 : decode b_Mo_best 29 = .ok (.istore_n 3, 1) := by decide +kernel
theorem d_Mo_best_30 : decode b_Mo_best 30 = .ok (.iload_n 3, 1) := by decide +kernel
theorem d_Mo_best_31 : decode b_Mo_best 31 = .ok (.bipush 9, 2) := by decide +kernel
theorem d_Mo_best_33 : decode b_Mo_best 33 = .ok (.if_icmp .ge 68, 3) := by decide +kernel
theorem d_Mo_best_36 : decode b_Mo_best 36 = .ok (.aload_n 0, 1) := by decide +kernel
theorem d_Mo_best_37 : decode b_Mo_best 37 = .ok (.getfield 25, 3) := by decide +kernel
theorem d_Mo_best_40 : decode b_Mo_best 40 = .ok (.iload_n 1, 1) := by decide +kernel
theorem d_Mo_best_41 : decode b_Mo_best 41 = .ok (.iload_n 3, 1) := by decide +kernel
theorem d_Mo_best_42 : decode b_Mo_best 42 = .ok (.iastore, 1) := by decide +kernel
theorem d_Mo_best_43 : decode b_Mo_best 43 = .ok (.aload_n 0, 1) := by decide +kernel
theorem d_Mo_best_44 : decode b_Mo_best 44 = .ok (.aload_n 0, 1) := by decide +kernel
theorem d_Mo_best_45 : decode b_Mo_best 45 = .ok (.getfield 51, 3) := by decide +kernel
theorem d_Mo_best_48 : decode b_Mo_best 48 = .ok (.invokevirtual 165, 3) := by decide +kernel
theorem d_Mo_best_51 : decode b_Mo_best 51 = .ok (.iload_n 3, 1) := by decide +kernel
theorem d_Mo_best_52 : decode b_Mo_best 52 = .ok (.ifCond .eq 19, 3) := by decide +kernel
theorem d_Mo_best_55 : decode b_Mo_best 55 = .ok (.aload_n 0, 1) := by decide +kernel
theorem d_Mo_best_56 : decode b_Mo_best 56 = .ok (.getfield 51, 3) := by decide +kernel
theorem d_Mo_best_59 : decode b_Mo_best 59 = .ok (.iconst 0, 1) := by decide +kernel
theorem d_Mo_best_60 : decode b_Mo_best 60 = .ok (.aload_n 0, 1) := by decide +kernel
theorem d_Mo_best_61 : decode b_Mo_best 61 = .ok (.getfield 48, 3) := by decide +kernel
theorem d_Mo_best_64 : decode b_Mo_best 64 = .ok (.iconst 0, 1) := by decide +kernel
theorem d_Mo_best_65 : decode b_Mo_best 65 = .ok (.invokestatic 147, 3) := by decide +kernel
theorem d_Mo_best_68 : decode b_Mo_best 68 = .ok (.ifCond .le 27, 3) := by decide +kernel
theorem d_Mo_best_71 : decode b_Mo_best 71 = .ok (.iload_n 3, 1) := by decide +kernel
theorem d_Mo_best_72 : decode b_Mo_best 72 = .ok (.istore_n 2, 1) := by decide +kernel
theorem d_Mo_best_73 : decode b_Mo_best 73 = .ok (.aload_n 0, 1) := by decide +kernel
theorem d_Mo_best_74 : decode b_Mo_best 74 = .ok (.getfield 48, 3) := by decide +kernel
theorem d_Mo_best_77 : decode b_Mo_best 77 = .ok (.iconst 0, 1) := by decide +kernel
theorem d_Mo_best_78 : decode b_Mo_best 78 = .ok (.invokestatic 139, 3) := by decide +kernel
theorem d_Mo_best_81 : decode b_Mo_best 81 = .ok (.aload_n 0, 1) := by decide +kernel
theorem d_Mo_best_82 : decode b_Mo_best 82 = .ok (.getfield 48, 3) := by decide +kernel
theorem d_Mo_best_85 : decode b_Mo_best 85 = .ok (.iconst 0, 1) := by decide +kernel
theorem d_Mo_best_86 : decode b_Mo_best 86 = .ok (.aload_n 0, 1) := by decide +kernel
theorem d_Mo_best_87 : decode b_Mo_best 87 = .ok (.getfield 51, 3) := by decide +kernel
theorem d_Mo_best_90 : decode b_Mo_best 90 = .ok (.iconst 0, 1) := by decide +kernel
theorem d_Mo_best_91 : decode b_Mo_best 91 = .ok (.lconst 1, 1) := by decide +kernel
theorem d_Mo_best_92 : decode b_Mo_best 92 = .ok (.invokestatic 143, 3) := by decide +kernel
theorem d_Mo_best_95 : decode b_Mo_best 95 = .ok (.iinc 3 1, 3) := by decide +kernel
theorem d_Mo_best_98 : decode b_Mo_best 98 = .ok (.goto (-68), 3) := by decide +kernel
theorem d_Mo_best_101 : decode b_Mo_best 101 = .ok (.iload_n 2, 1) := by decide +kernel
theorem d_Mo_best_102 : decode b_Mo_best 102 = .ok (.ireturn, 1) := by decide +kernel
theorem d_Mo_would_0 : decode b_Mo_would 0 = .ok (.aload_n 0, 1) := by decide +kernel
theorem d_Mo_would_1 : decode b_Mo_would 1 = .ok (.aload_n 0, 1) := by decide +kernel
theorem d_Mo_would_2 : decode b_Mo_would 2 = .ok (.iload_n 1, 1) := by decide +kernel
theorem d_Mo_would_3 : decode b_Mo_would 3 = .ok (.invokevirtual 106, 3) := by decide +kernel
theorem d_Mo_would_6 : decode b_Mo_would 6 = .ok (.ifCond .ne 7, 3) := by decide +kernel
theorem d_Mo_would_9 : decode b_Mo_would 9 = .ok (.iconst 1, 1) := by decide +kernel
theorem d_Mo_would_10 : decode b_Mo_would 10 = .ok (.goto 18, 3) := by decide +kernel
theorem d_Mo_would_13 : decode b_Mo_would 13 = .ok (.iload_n 2, 1) := by decide +kernel
theorem d_Mo_would_14 : decode b_Mo_would 14 = .ok (.ifCond .lt 9, 3) := by decide +kernel
theorem d_Mo_would_17 : decode b_Mo_would 17 = .ok (.iload_n 2, 1) := by decide +kernel
theorem d_Mo_would_18 : decode b_Mo_would 18 = .ok (.bipush 8, 2) := by decide +kernel
theorem d_Mo_would_20 : decode b_Mo_would 20 = .ok (.if_icmp .le 7, 3) := by decide +kernel
theorem d_Mo_would_23 : decode b_Mo_would 23 = .ok (.iconst 2, 1) := by decide +kernel
theorem d_Mo_would_24 : decode b_Mo_would 24 = .ok (.goto 4, 3) := by decide +kernel
theorem d_Mo_would_27 : decode b_Mo_would 27 = .ok (.iconst 0, 1) := by decide +kernel
theorem d_Mo_would_28 : decode b_Mo_would 28 = .ok (.invokevirtual 96, 3) := by decide +kernel
theorem d_Mo_would_31 : decode b_Mo_would 31 = .ok (.ifCond .eq 5, 3) := by decide +kernel
theorem d_Mo_would_34 : decode b_Mo_would 34 = .ok (.iconst 0, 1) := by decide +kernel
theorem d_Mo_would_35 : decode b_Mo_would 35 = .ok (.ireturn, 1) := by decide +kernel
theorem d_Mo_would_36 : decode b_Mo_would 36 = .ok (.aload_n 0, 1) := by decide +kernel
theorem d_Mo_would_37 : decode b_Mo_would 37 = .ok (.invokevirtual 162, 3) := by decide +kernel
theorem d_Mo_would_40 : decode b_Mo_would 40 = .ok (.aload_n 0, 1) := by decide +kernel
theorem d_Mo_would_41 : decode b_Mo_would 41 = .ok (.aload_n 0, 1) := by decide +kernel
theorem d_Mo_would_42 : decode b_Mo_would 42 = .ok (.getfield 48, 3) := by decide +kernel
theorem d_Mo_would_45 : decode b_Mo_would 45 = .ok (.invokevirtual 165, 3) := by decide +kernel
theorem d_Mo_would_48 : decode b_Mo_would 48 = .ok (.aload_n 0, 1) := by decide +kernel
theorem d_Mo_would_49 : decode b_Mo_would 49 = .ok (.getfield 25, 3) := by decide +kernel
theorem d_Mo_would_52 : decode b_Mo_would 52 = .ok (.iload_n 1, 1) := by decide +kernel
theorem d_Mo_would_53 : decode b_Mo_would 53 = .ok (.iload_n 2, 1) := by decide +kernel
theorem d_Mo_would_54 : decode b_Mo_would 54 = .ok (.iastore, 1) := by decide +kernel
theorem d_Mo_would_55 : decode b_Mo_would 55 = .ok (.aload_n 0, 1) := by decide +kernel
theorem d_Mo_would_56 : decode b_Mo_would 56 = .ok (.aload_n 0, 1) := by decide +kernel
theorem d_Mo_would_57 : decode b_Mo_would 57 = .ok (.getfield 51, 3) := by decide +kernel
theorem d_Mo_would_60 : decode b_Mo_would 60 = .ok (.invokevirtual 165, 3) := by decide +kernel
theorem d_Mo_would_63 : decode b_Mo_would 63 = .ok (.aload_n 0, 1) := by decide +kernel
theorem d_Mo_would_64 : decode b_Mo_would 64 = .ok (.getfield 51, 3) := by decide +kernel
theorem d_Mo_would_67 : decode b_Mo_would 67 = .ok (.iconst 0, 1) := by decide +kernel
theorem d_Mo_would_68 : decode b_Mo_would 68 = .ok (.aload_n 0, 1) := by decide +kernel
theorem d_Mo_would_69 : decode b_Mo_would 69 = .ok (.getfield 48, 3) := by decide +kernel
theorem d_Mo_would_72 : decode b_Mo_would 72 = .ok (.iconst 0, 1) := by decide +kernel
theorem d_Mo_would_73 : decode b_Mo_would 73 = .ok (.invokestatic 147, 3) := by decide +kernel
theorem d_Mo_would_76 : decode b_Mo_would 76 = .ok (.ireturn, 1) := by decide +kernel
theorem d_Mo_joint_0 : decode b_Mo_joint 0 = .ok (.aload_n 0, 1) := by decide +kernel
theorem d_Mo_joint_1 : decode b_Mo_joint 1 = .ok (.aload_n 0, 1) := by decide +kernel
theorem d_Mo_joint_2 : decode b_Mo_joint 2 = .ok (.getfield 83, 3) := by decide +kernel
theorem d_Mo_joint_5 : decode b_Mo_joint 5 = .ok (.ifCond .ne 7, 3) := by decide +kernel
theorem d_Mo_joint_8 : decode b_Mo_joint 8 = .ok (.iconst 1, 1) := by decide +kernel
theorem d_Mo_joint_9 : decode b_Mo_joint 9 = .ok (.goto 4, 3) := by decide +kernel
theorem d_Mo_joint_12 : decode b_Mo_joint 12 = .ok (.iconst 0, 1) := by decide +kernel
theorem d_Mo_joint_13 : decode b_Mo_joint 13 = .ok (.invokevirtual 96, 3) := by decide +kernel
theorem d_Mo_joint_16 : decode b_Mo_joint 16 = .ok (.ifCond .eq 5, 3) := by decide +kernel
theorem d_Mo_joint_19 : decode b_Mo_joint 19 = .ok (.iconst 0, 1) := by decide +kernel
theorem d_Mo_joint_20 : decode b_Mo_joint 20 = .ok (.ireturn, 1) := by decide +kernel
theorem d_Mo_joint_21 : decode b_Mo_joint 21 = .ok (.aload_n 0, 1) := by decide +kernel
theorem d_Mo_joint_22 : decode b_Mo_joint 22 = .ok (.invokevirtual 162, 3) := by decide +kernel
theorem d_Mo_joint_25 : decode b_Mo_joint 25 = .ok (.aload_n 0, 1) := by decide +kernel
theorem d_Mo_joint_26 : decode b_Mo_joint 26 = .ok (.aload_n 0, 1) := by decide +kernel
theorem d_Mo_joint_27 : decode b_Mo_joint 27 = .ok (.getfield 48, 3) := by decide +kernel
theorem d_Mo_joint_30 : decode b_Mo_joint 30 = .ok (.invokevirtual 165, 3) := by decide +kernel
theorem d_Mo_joint_33 : decode b_Mo_joint 33 = .ok (.aload_n 0, 1) := by decide +kernel
theorem d_Mo_joint_34 : decode b_Mo_joint 34 = .ok (.iconst 0, 1) := by decide +kernel
theorem d_Mo_joint_35 : decode b_Mo_joint 35 = .ok (.putfield 169, 3) := by decide +kernel
theorem d_Mo_joint_38 : decode b_Mo_joint 38 = .ok (.iconst 1, 1) := by decide +kernel
theorem d_Mo_joint_39 : decode b_Mo_joint 39 = .ok (.istore_n 1, 1) := by decide +kernel
theorem d_Mo_joint_40 : decode b_Mo_joint 40 = .ok (.iload_n 1, 1) := by decide +kernel
theorem d_Mo_joint_41 : decode b_Mo_joint 41 = .ok (.ifCond .eq 95, 3) := by decide +kernel
theorem d_Mo_joint_44 : decode b_Mo_joint 44 = .ok (.lconst 0, 1) := by decide +kernel
theorem d_Mo_joint_45 : decode b_Mo_joint 45 = .ok (.lstore_n 2, 1) := by decide +kernel
theorem d_Mo_joint_46 : decode b_Mo_joint 46 = .ok (.bipush 7, 2) := by decide +kernel
theorem d_Mo_joint_48 : decode b_Mo_joint 48 = .ok (.istore 4, 2) := by decide +kernel
theorem d_Mo_joint_50 : decode b_Mo_joint 50 = .ok (.iload 4, 2) := by decide +kernel
theorem d_Mo_joint_52 : decode b_Mo_joint 52 = .ok (.ifCond .lt 41, 3) := by decide +kernel
theorem d_Mo_joint_55 : decode b_Mo_joint 55 = .ok (.lload_n 2, 1) := by decide +kernel
theorem d_Mo_joint_56 : decode b_Mo_joint 56 = .ok (.ldc2_w 137, 3) := by decide +kernel
theorem d_Mo_joint_59 : decode b_Mo_joint 59 = .ok (.lmul, 1) := by decide +kernel
theorem d_Mo_joint_60 : decode b_Mo_joint 60 = .ok (.aload_n 0, 1) := by decide +kernel
theorem d_Mo_joint_61 : decode b_Mo_joint 61 = .ok (.getfield 48, 3) := by decide +kernel
theorem d_Mo_joint_64 : decode b_Mo_joint 64 = .ok (.iload 4, 2) := by decide +kernel
theorem d_Mo_joint_66 : decode b_Mo_joint 66 = .ok (.laload, 1) := by decide +kernel
theorem d_Mo_joint_67 : decode b_Mo_joint 67 = .ok (.ladd, 1) := by decide +kernel
theorem d_Mo_joint_68 : decode b_Mo_joint 68 = .ok (.lstore_n 2, 1) := by decide +kernel
theorem d_Mo_joint_69 : decode b_Mo_joint 69 = .ok (.aload_n 0, 1) := by decide +kernel
theorem d_Mo_joint_70 : decode b_Mo_joint 70 = .ok (.getfield 48, 3) := by decide +kernel
theorem d_Mo_joint_73 : decode b_Mo_joint 73 = .ok (.iload 4, 2) := by decide +kernel
theorem d_Mo_joint_75 : decode b_Mo_joint 75 = .ok (.lload_n 2, 1) := by decide +kernel
theorem d_Mo_joint_76 : decode b_Mo_joint 76 = .ok (.ldc2_w 172, 3) := by decide +kernel
theorem d_Mo_joint_79 : decode b_Mo_joint 79 = .ok (.ldiv, 1) := by decide +kernel
theorem d_Mo_joint_80 : decode b_Mo_joint 80 = .ok (.lastore, 1) := by decide +kernel
theorem d_Mo_joint_81 : decode b_Mo_joint 81 = .ok (.lload_n 2, 1) := by decide +kernel
theorem d_Mo_joint_82 : decode b_Mo_joint 82 = .ok (.ldc2_w 172, 3) := by decide +kernel
theorem d_Mo_joint_85 : decode b_Mo_joint 85 = .ok (.lrem, 1) := by decide +kernel
theorem d_Mo_joint_86 : decode b_Mo_joint 86 = .ok (.lstore_n 2, 1) := by decide +kernel
theorem d_Mo_joint_87 : decode b_Mo_joint 87 = .ok (.iinc 4 (-1), 3) := by decide +kernel
theorem d_Mo_joint_90 : decode b_Mo_joint 90 = .ok (.goto (-40), 3) := by decide +kernel
theorem d_Mo_joint_93 : decode b_Mo_joint 93 = .ok (.aload_n 0, 1) := by decide +kernel
theorem d_Mo_joint_94 : decode b_Mo_joint 94 = .ok (.getfield 69, 3) := by decide +kernel
theorem d_Mo_joint_97 : decode b_Mo_joint 97 = .ok (.aload_n 0, 1) := by decide +kernel
theorem d_Mo_joint_98 : decode b_Mo_joint 98 = .ok (.getfield 169, 3) := by decide +kernel
theorem d_Mo_joint_101 : decode b_Mo_joint 101 = .ok (.bipush 48, 2) := by decide +kernel
theorem d_Mo_joint_103 : decode b_Mo_joint 103 = .ok (.lload_n 2, 1) := by decide +kernel
theorem d_Mo_joint_104 : decode b_Mo_joint 104 = .ok (.l2i, 1) := by decide +kernel
theorem d_Mo_joint_105 : decode b_Mo_joint 105 = .ok (.iadd, 1) := by decide +kernel
theorem d_Mo_joint_106 : decode b_Mo_joint 106 = .ok (.iastore, 1) := by decide +kernel
theorem d_Mo_joint_107 : decode b_Mo_joint 107 = .ok (.aload_n 0, 1) := by decide +kernel
theorem d_Mo_joint_108 : decode b_Mo_joint 108 = .ok (.dup, 1) := by decide +kernel
theorem d_Mo_joint_109 : decode b_Mo_joint 109 = .ok (.getfield 169, 3) := by decide +kernel
theorem d_Mo_joint_112 : decode b_Mo_joint 112 = .ok (.iconst 1, 1) := by decide +kernel
theorem d_Mo_joint_113 : decode b_Mo_joint 113 = .ok (.iadd, 1) := by decide +kernel
theorem d_Mo_joint_114 : decode b_Mo_joint 114 = .ok (.putfield 169, 3) := by decide +kernel
theorem d_Mo_joint_117 : decode b_Mo_joint 117 = .ok (.aload_n 0, 1) := by decide +kernel
theorem d_Mo_joint_118 : decode b_Mo_joint 118 = .ok (.getfield 48, 3) := by decide +kernel
theorem d_Mo_joint_121 : decode b_Mo_joint 121 = .ok (.invokestatic 174, 3) := by decide +kernel
theorem d_Mo_joint_124 : decode b_Mo_joint 124 = .ok (.ifCond .ne 7, 3) := by decide +kernel
theorem d_Mo_joint_127 : decode b_Mo_joint 127 = .ok (.iconst 1, 1) := by decide +kernel
theorem d_Mo_joint_128 : decode b_Mo_joint 128 = .ok (.goto 4, 3) := by decide +kernel
theorem d_Mo_joint_131 : decode b_Mo_joint 131 = .ok (.iconst 0, 1) := by decide +kernel
theorem d_Mo_joint_132 : decode b_Mo_joint 132 = .ok (.istore_n 1, 1) := by decide +kernel
theorem d_Mo_joint_133 : decode b_Mo_joint 133 = .ok (.goto (-93), 3) := by decide +kernel
theorem d_Mo_joint_136 : decode b_Mo_joint 136 = .ok (.iconst 0, 1) := by decide +kernel
theorem d_Mo_joint_137 : decode b_Mo_joint 137 = .ok (.istore_n 2, 1) := by decide +kernel
theorem d_Mo_joint_138 : decode b_Mo_joint 138 = .ok (.iload_n 2, 1) := by decide +kernel
theorem d_Mo_joint_139 : decode b_Mo_joint 139 = .ok (.aload_n 0, 1) := by decide +kernel
theorem d_Mo_joint_140 : decode b_Mo_joint 140 = .ok (.getfield 169, 3) := by decide +kernel
theorem d_Mo_joint_143 : decode b_Mo_joint 143 = .ok (.iconst 2, 1) := by decide +kernel
theorem d_Mo_joint_144 : decode b_Mo_joint 144 = .ok (.idiv, 1) := by decide +kernel
theorem d_Mo_joint_145 : decode b_Mo_joint 145 = .ok (.if_icmp .ge 49, 3) := by decide +kernel
theorem d_Mo_joint_148 : decode b_Mo_joint 148 = .ok (.aload_n 0, 1) := by decide +kernel
theorem d_Mo_joint_149 : decode b_Mo_joint 149 = .ok (.getfield 69, 3) := by decide +kernel
theorem d_Mo_joint_152 : decode b_Mo_joint 152 = .ok (.iload_n 2, 1) := by decide +kernel
theorem d_Mo_joint_153 : decode b_Mo_joint 153 = .ok (.iaload, 1) := by decide +kernel
theorem d_Mo_joint_154 : decode b_Mo_joint 154 = .ok (.istore_n 3, 1) := by decide +kernel
theorem d_Mo_joint_155 : decode b_Mo_joint 155 = .ok (.aload_n 0, 1) := by decide +kernel
theorem d_Mo_joint_156 : decode b_Mo_joint 156 = .ok (.getfield 69, 3) := by decide +kernel
theorem d_Mo_joint_159 : decode b_Mo_joint 159 = .ok (.iload_n 2, 1) := by decide +kernel
theorem d_Mo_joint_160 : decode b_Mo_joint 160 = .ok (.aload_n 0, 1) := by decide +kernel
theorem d_Mo_joint_161 : decode b_Mo_joint 161 = .ok (.getfield 69, 3) := by decide +kernel
theorem d_Mo_joint_164 : decode b_Mo_joint 164 = .ok (.aload_n 0, 1) := by decide +kernel
theorem d_Mo_joint_165 : decode b_Mo_joint 165 = .ok (.getfield 169, 3) := by decide +kernel
theorem d_Mo_joint_168 : decode b_Mo_joint 168 = .ok (.iconst 1, 1) := by decide +kernel
theorem d_Mo_joint_169 : decode b_Mo_joint 169 = .ok (.isub, 1) := by decide +kernel
theorem d_Mo_joint_170 : decode b_Mo_joint 170 = .ok (.iload_n 2, 1) := by decide +kernel
theorem d_Mo_joint_171 : decode b_Mo_joint 171 = .ok (.isub, 1) := by decide +kernel
theorem d_Mo_joint_172 : decode b_Mo_joint 172 = .ok (.iaload, 1) := by decide +kernel
theorem d_Mo_joint_173 : decode b_Mo_joint 173 = .ok (.iastore, 1) := by decide +kernel
theorem d_Mo_joint_174 : decode b_Mo_joint 174 = .ok (.aload_n 0, 1) := by decide +kernel
theorem d_Mo_joint_175 : decode b_Mo_joint 175 = .ok (.getfield 69, 3) := by decide +kernel
theorem d_Mo_joint_178 : decode b_Mo_joint 178 = .ok (.aload_n 0, 1) := by decide +kernel
theorem d_Mo_joint_179 : decode b_Mo_joint 179 = .ok (.getfield 169, 3) := by decide +kernel
theorem d_Mo_joint_182 : decode b_Mo_joint 182 = .ok (.iconst 1, 1) := by decide +kernel
theorem d_Mo_joint_183 : decode b_Mo_joint 183 = .ok (.isub, 1) := by decide +kernel
theorem d_Mo_joint_184 : decode b_Mo_joint 184 = .ok (.iload_n 2, 1) := by decide +kernel
theorem d_Mo_joint_185 : decode b_Mo_joint 185 = .ok (.isub, 1) := by decide +kernel
theorem d_Mo_joint_186 : decode b_Mo_joint 186 = .ok (.iload_n 3, 1) := by decide +kernel
theorem d_Mo_joint_187 : decode b_Mo_joint 187 = .ok (.iastore, 1) := by decide +kernel
theorem d_Mo_joint_188 : decode b_Mo_joint 188 = .ok (.iinc 2 1, 3) := by decide +kernel
theorem d_Mo_joint_191 : decode b_Mo_joint 191 = .ok (.goto (-53), 3) := by decide +kernel
theorem d_Mo_joint_194 : decode b_Mo_joint 194 = .ok (.aload_n 0, 1) := by decide +kernel
theorem d_Mo_joint_195 : decode b_Mo_joint 195 = .ok (.getfield 169, 3) := by decide +kernel
theorem d_Mo_joint_198 : decode b_Mo_joint 198 = .ok (.ireturn, 1) := by decide +kernel
theorem d_Mo_odds_0 : decode b_Mo_odds 0 = .ok (.aload_n 0, 1) := by decide +kernel
theorem d_Mo_odds_1 : decode b_Mo_odds 1 = .ok (.iload_n 1, 1) := by decide +kernel
theorem d_Mo_odds_2 : decode b_Mo_odds 2 = .ok (.iconst 1, 1) := by decide +kernel
theorem d_Mo_odds_3 : decode b_Mo_odds 3 = .ok (.if_icmp .lt 10, 3) := by decide +kernel
theorem d_Mo_odds_6 : decode b_Mo_odds 6 = .ok (.iload_n 1, 1) := by decide +kernel
theorem d_Mo_odds_7 : decode b_Mo_odds 7 = .ok (.sipush 1000, 3) := by decide +kernel
theorem d_Mo_odds_10 : decode b_Mo_odds 10 = .ok (.if_icmp .le 7, 3) := by decide +kernel
theorem d_Mo_odds_13 : decode b_Mo_odds 13 = .ok (.iconst 1, 1) := by decide +kernel
theorem d_Mo_odds_14 : decode b_Mo_odds 14 = .ok (.goto 15, 3) := by decide +kernel
theorem d_Mo_odds_17 : decode b_Mo_odds 17 = .ok (.aload_n 0, 1) := by decide +kernel
theorem d_Mo_odds_18 : decode b_Mo_odds 18 = .ok (.getfield 83, 3) := by decide +kernel
theorem d_Mo_odds_21 : decode b_Mo_odds 21 = .ok (.ifCond .ne 7, 3) := by decide +kernel
theorem d_Mo_odds_24 : decode b_Mo_odds 24 = .ok (.iconst 2, 1) := by decide +kernel
theorem d_Mo_odds_25 : decode b_Mo_odds 25 = .ok (.goto 4, 3) := by decide +kernel
theorem d_Mo_odds_28 : decode b_Mo_odds 28 = .ok (.iconst 0, 1) := by decide +kernel
theorem d_Mo_odds_29 : decode b_Mo_odds 29 = .ok (.invokevirtual 96, 3) := by decide +kernel
theorem d_Mo_odds_32 : decode b_Mo_odds 32 = .ok (.ifCond .eq 5, 3) := by decide +kernel
theorem d_Mo_odds_35 : decode b_Mo_odds 35 = .ok (.iconst 0, 1) := by decide +kernel
theorem d_Mo_odds_36 : decode b_Mo_odds 36 = .ok (.ireturn, 1) := by decide +kernel
theorem d_Mo_odds_37 : decode b_Mo_odds 37 = .ok (.aload_n 0, 1) := by decide +kernel
theorem d_Mo_odds_38 : decode b_Mo_odds 38 = .ok (.invokevirtual 162, 3) := by decide +kernel
theorem d_Mo_odds_41 : decode b_Mo_odds 41 = .ok (.aload_n 0, 1) := by decide +kernel
theorem d_Mo_odds_42 : decode b_Mo_odds 42 = .ok (.aload_n 0, 1) := by decide +kernel
theorem d_Mo_odds_43 : decode b_Mo_odds 43 = .ok (.getfield 48, 3) := by decide +kernel
theorem d_Mo_odds_46 : decode b_Mo_odds 46 = .ok (.invokevirtual 165, 3) := by decide +kernel
theorem d_Mo_odds_49 : decode b_Mo_odds 49 = .ok (.iconst 0, 1) := by decide +kernel
theorem d_Mo_odds_50 : decode b_Mo_odds 50 = .ok (.istore_n 2, 1) := by decide +kernel
theorem d_Mo_odds_51 : decode b_Mo_odds 51 = .ok (.iload_n 2, 1) := by decide +kernel
theorem d_Mo_odds_52 : decode b_Mo_odds 52 = .ok (.iconst 4, 1) := by decide +kernel
theorem d_Mo_odds_53 : decode b_Mo_odds 53 = .ok (.if_icmp .ge 17, 3) := by decide +kernel
theorem d_Mo_odds_56 : decode b_Mo_odds 56 = .ok (.aload_n 0, 1) := by decide +kernel
theorem d_Mo_odds_57 : decode b_Mo_odds 57 = .ok (.getfield 25, 3) := by decide +kernel
theorem d_Mo_odds_60 : decode b_Mo_odds 60 = .ok (.iload_n 2, 1) := by decide +kernel
theorem d_Mo_odds_61 : decode b_Mo_odds 61 = .ok (.bipush 8, 2) := by decide +kernel
theorem d_Mo_odds_63 : decode b_Mo_odds 63 = .ok (.iastore, 1) := by decide +kernel
theorem d_Mo_odds_64 : decode b_Mo_odds 64 = .ok (.iinc 2 1, 3) := by decide +kernel
theorem d_Mo_odds_67 : decode b_Mo_odds 67 = .ok (.goto (-16), 3) := by decide +kernel
theorem d_Mo_odds_70 : decode b_Mo_odds 70 = .ok (.aload_n 0, 1) := by decide +kernel
theorem d_Mo_odds_71 : decode b_Mo_odds 71 = .ok (.aload_n 0, 1) := by decide +kernel
theorem d_Mo_odds_72 : decode b_Mo_odds 72 = .ok (.getfield 57, 3) := by decide +kernel
theorem d_Mo_odds_75 : decode b_Mo_odds 75 = .ok (.invokevirtual 165, 3) := by decide +kernel
theorem d_Mo_odds_78 : decode b_Mo_odds 78 = .ok (.aload_n 0, 1) := by decide +kernel
theorem d_Mo_odds_79 : decode b_Mo_odds 79 = .ok (.getfield 57, 3) := by decide +kernel
theorem d_Mo_odds_82 : decode b_Mo_odds 82 = .ok (.invokestatic 174, 3) := by decide +kernel
theorem d_Mo_odds_85 : decode b_Mo_odds 85 = .ok (.ifCond .eq 7, 3) := by decide +kernel
theorem d_Mo_odds_88 : decode b_Mo_odds 88 = .ok (.iconst (-1), 1) := by decide +kernel
theorem d_Mo_odds_89 : decode b_Mo_odds 89 = .ok (.goto 17, 3) := by decide +kernel
theorem d_Mo_odds_92 : decode b_Mo_odds 92 = .ok (.aload_n 0, 1) := by decide +kernel
theorem d_Mo_odds_93 : decode b_Mo_odds 93 = .ok (.aload_n 0, 1) := by decide +kernel
theorem d_Mo_odds_94 : decode b_Mo_odds 94 = .ok (.getfield 48, 3) := by decide +kernel
theorem d_Mo_odds_97 : decode b_Mo_odds 97 = .ok (.iload_n 1, 1) := by decide +kernel
theorem d_Mo_odds_98 : decode b_Mo_odds 98 = .ok (.i2l, 1) := by decide +kernel
theorem d_Mo_odds_99 : decode b_Mo_odds 99 = .ok (.aload_n 0, 1) := by decide +kernel
theorem d_Mo_odds_100 : decode b_Mo_odds 100 = .ok (.getfield 57, 3) := by decide +kernel
theorem d_Mo_odds_103 : decode b_Mo_odds 103 = .ok (.invokevirtual 178, 3) := by decide +kernel
theorem d_Mo_odds_106 : decode b_Mo_odds 106 = .ok (.ireturn, 1) := by decide +kernel
