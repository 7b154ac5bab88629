theorem d_Fi_at_0 : decode b_Fi_at 0 = .ok (.aload_n 0, 1) := by decide +kernel
theorem d_Fi_at_1 : decode b_Fi_at 1 = .ok (.getfield 19, 3) := by decide +kernel
theorem d_Fi_at_4 : decode b_Fi_at 4 = .ok (.iload_n 1, 1) := by decide +kernel
theorem d_Fi_at_5 : decode b_Fi_at 5 = .ok (.bipush 64, 2) := by decide +kernel
theorem d_Fi_at_7 : decode b_Fi_at 7 = .ok (.imul, 1) := by decide +kernel
theorem d_Fi_at_8 : decode b_Fi_at 8 = .ok (.iload_n 2, 1) := by decide +kernel
theorem d_Fi_at_9 : decode b_Fi_at 9 = .ok (.iadd, 1) := by decide +kernel
theorem d_Fi_at_10 : decode b_Fi_at 10 = .ok (.iaload, 1) := by decide +kernel
theorem d_Fi_at_11 : decode b_Fi_at 11 = .ok (.ireturn, 1) := by decide +kernel
theorem d_Fi_weightOfLetters_0 : decode b_Fi_weightOfLetters 0 = .ok (.iconst 1, 1) := by decide +kernel
theorem d_Fi_weightOfLetters_1 : decode b_Fi_weightOfLetters 1 = .ok (.istore_n 2, 1) := by decide +kernel
theorem d_Fi_weightOfLetters_2 : decode b_Fi_weightOfLetters 2 = .ok (.iconst 0, 1) := by decide +kernel
theorem d_Fi_weightOfLetters_3 : decode b_Fi_weightOfLetters 3 = .ok (.istore_n 3, 1) := by decide +kernel
theorem d_Fi_weightOfLetters_4 : decode b_Fi_weightOfLetters 4 = .ok (.iload_n 3, 1) := by decide +kernel
theorem d_Fi_weightOfLetters_5 : decode b_Fi_weightOfLetters 5 = .ok (.iconst 2, 1) := by decide +kernel
theorem d_Fi_weightOfLetters_6 : decode b_Fi_weightOfLetters 6 = .ok (.aload_n 0, 1) := by decide +kernel
theorem d_Fi_weightOfLetters_7 : decode b_Fi_weightOfLetters 7 = .ok (.getfield 9, 3) := by decide +kernel
theorem d_Fi_weightOfLetters_10 : decode b_Fi_weightOfLetters 10 = .ok (.getfield 71, 3) := by decide +kernel
theorem d_Fi_weightOfLetters_13 : decode b_Fi_weightOfLetters 13 = .ok (.imul, 1) := by decide +kernel
theorem d_Fi_weightOfLetters_14 : decode b_Fi_weightOfLetters 14 = .ok (.if_icmp .ge 26, 3) := by decide +kernel
theorem d_Fi_weightOfLetters_17 : decode b_Fi_weightOfLetters 17 = .ok (.iload_n 2, 1) := by decide +kernel
theorem d_Fi_weightOfLetters_18 : decode b_Fi_weightOfLetters 18 = .ok (.aload_n 0, 1) := by decide +kernel
theorem d_Fi_weightOfLetters_19 : decode b_Fi_weightOfLetters 19 = .ok (.getfield 15, 3) := by decide +kernel
theorem d_Fi_weightOfLetters_22 : decode b_Fi_weightOfLetters 22 = .ok (.iload_n 1, 1) := by decide +kernel
theorem d_Fi_weightOfLetters_23 : decode b_Fi_weightOfLetters 23 = .ok (.aload_n 0, 1) := by decide +kernel
theorem d_Fi_weightOfLetters_24 : decode b_Fi_weightOfLetters 24 = .ok (.getfield 23, 3) := by decide +kernel
theorem d_Fi_weightOfLetters_27 : decode b_Fi_weightOfLetters 27 = .ok (.iload_n 3, 1) := by decide +kernel
theorem d_Fi_weightOfLetters_28 : decode b_Fi_weightOfLetters 28 = .ok (.iaload, 1) := by decide +kernel
theorem d_Fi_weightOfLetters_29 : decode b_Fi_weightOfLetters 29 = .ok (.invokevirtual 74, 3) := by decide +kernel
theorem d_Fi_weightOfLetters_32 : decode b_Fi_weightOfLetters 32 = .ok (.imul, 1) := by decide +kernel
theorem d_Fi_weightOfLetters_33 : decode b_Fi_weightOfLetters 33 = .ok (.istore_n 2, 1) := by decide +kernel
theorem d_Fi_weightOfLetters_34 : decode b_Fi_weightOfLetters 34 = .ok (.iinc 3 1, 3) := by decide +kernel
theorem d_Fi_weightOfLetters_37 : decode b_Fi_weightOfLetters 37 = .ok (.goto (-33), 3) := by decide +kernel
theorem d_Fi_weightOfLetters_40 : decode b_Fi_weightOfLetters 40 = .ok (.iload_n 2, 1) := by decide +kernel
theorem d_Fi_weightOfLetters_41 : decode b_Fi_weightOfLetters 41 = .ok (.ireturn, 1) := by decide +kernel
theorem d_Fi_sumWith_0 : decode b_Fi_sumWith 0 = .ok (.iconst 0, 1) := by decide +kernel
theorem d_Fi_sumWith_1 : decode b_Fi_sumWith 1 = .ok (.istore 6, 2) := by decide +kernel
theorem d_Fi_sumWith_3 : decode b_Fi_sumWith 3 = .ok (.aload_n 0, 1) := by decide +kernel
theorem d_Fi_sumWith_4 : decode b_Fi_sumWith 4 = .ok (.getfield 9, 3) := by decide +kernel
theorem d_Fi_sumWith_7 : decode b_Fi_sumWith 7 = .ok (.iload_n 1, 1) := by decide +kernel
theorem d_Fi_sumWith_8 : decode b_Fi_sumWith 8 = .ok (.iconst 0, 1) := by decide +kernel
theorem d_Fi_sumWith_9 : decode b_Fi_sumWith 9 = .ok (.iload_n 3, 1) := by decide +kernel
theorem d_Fi_sumWith_10 : decode b_Fi_sumWith 10 = .ok (.invokevirtual 68, 3) := by decide +kernel
theorem d_Fi_sumWith_13 : decode b_Fi_sumWith 13 = .ok (.istore 7, 2) := by decide +kernel
theorem d_Fi_sumWith_15 : decode b_Fi_sumWith 15 = .ok (.aload_n 0, 1) := by decide +kernel
theorem d_Fi_sumWith_16 : decode b_Fi_sumWith 16 = .ok (.getfield 23, 3) := by decide +kernel
theorem d_Fi_sumWith_19 : decode b_Fi_sumWith 19 = .ok (.iload 7, 2) := by decide +kernel
theorem d_Fi_sumWith_21 : decode b_Fi_sumWith 21 = .ok (.iaload, 1) := by decide +kernel
theorem d_Fi_sumWith_22 : decode b_Fi_sumWith 22 = .ok (.istore 8, 2) := by decide +kernel
theorem d_Fi_sumWith_24 : decode b_Fi_sumWith 24 = .ok (.iload 8, 2) := by decide +kernel
theorem d_Fi_sumWith_26 : decode b_Fi_sumWith 26 = .ok (.ifCond .eq 10, 3) := by decide +kernel
theorem d_Fi_sumWith_29 : decode b_Fi_sumWith 29 = .ok (.iload 8, 2) := by decide +kernel
theorem d_Fi_sumWith_31 : decode b_Fi_sumWith 31 = .ok (.iload 4, 2) := by decide +kernel
theorem d_Fi_sumWith_33 : decode b_Fi_sumWith 33 = .ok (.if_icmp .ne 83, 3) := by decide +kernel
theorem d_Fi_sumWith_36 : decode b_Fi_sumWith 36 = .ok (.aload_n 0, 1) := by decide +kernel
theorem d_Fi_sumWith_37 : decode b_Fi_sumWith 37 = .ok (.getfield 23, 3) := by decide +kernel
theorem d_Fi_sumWith_40 : decode b_Fi_sumWith 40 = .ok (.iload 7, 2) := by decide +kernel
theorem d_Fi_sumWith_42 : decode b_Fi_sumWith 42 = .ok (.iload 4, 2) := by decide +kernel
theorem d_Fi_sumWith_44 : decode b_Fi_sumWith 44 = .ok (.iastore, 1) := by decide +kernel
theorem d_Fi_sumWith_45 : decode b_Fi_sumWith 45 = .ok (.aload_n 0, 1) := by decide +kernel
theorem d_Fi_sumWith_46 : decode b_Fi_sumWith 46 = .ok (.getfield 9, 3) := by decide +kernel
theorem d_Fi_sumWith_49 : decode b_Fi_sumWith 49 = .ok (.iload_n 1, 1) := by decide +kernel
theorem d_Fi_sumWith_50 : decode b_Fi_sumWith 50 = .ok (.iconst 1, 1) := by decide +kernel
theorem d_Fi_sumWith_51 : decode b_Fi_sumWith 51 = .ok (.iload_n 3, 1) := by decide +kernel
theorem d_Fi_sumWith_52 : decode b_Fi_sumWith 52 = .ok (.invokevirtual 68, 3) := by decide +kernel
theorem d_Fi_sumWith_55 : decode b_Fi_sumWith 55 = .ok (.istore 9, 2) := by decide +kernel
theorem d_Fi_sumWith_57 : decode b_Fi_sumWith 57 = .ok (.aload_n 0, 1) := by decide +kernel
theorem d_Fi_sumWith_58 : decode b_Fi_sumWith 58 = .ok (.getfield 23, 3) := by decide +kernel
theorem d_Fi_sumWith_61 : decode b_Fi_sumWith 61 = .ok (.iload 9, 2) := by decide +kernel
theorem d_Fi_sumWith_63 : decode b_Fi_sumWith 63 = .ok (.iaload, 1) := by decide +kernel
theorem d_Fi_sumWith_64 : decode b_Fi_sumWith 64 = .ok (.istore 10, 2) := by decide +kernel
theorem d_Fi_sumWith_66 : decode b_Fi_sumWith 66 = .ok (.iload 10, 2) := by decide +kernel
theorem d_Fi_sumWith_68 : decode b_Fi_sumWith 68 = .ok (.ifCond .eq 10, 3) := by decide +kernel
theorem d_Fi_sumWith_71 : decode b_Fi_sumWith 71 = .ok (.iload 10, 2) := by decide +kernel
theorem d_Fi_sumWith_73 : decode b_Fi_sumWith 73 = .ok (.iload 5, 2) := by decide +kernel
theorem d_Fi_sumWith_75 : decode b_Fi_sumWith 75 = .ok (.if_icmp .ne 32, 3) := by decide +kernel
theorem d_Fi_sumWith_78 : decode b_Fi_sumWith 78 = .ok (.aload_n 0, 1) := by decide +kernel
theorem d_Fi_sumWith_79 : decode b_Fi_sumWith 79 = .ok (.getfield 23, 3) := by decide +kernel
theorem d_Fi_sumWith_82 : decode b_Fi_sumWith 82 = .ok (.iload 9, 2) := by decide +kernel
theorem d_Fi_sumWith_84 : decode b_Fi_sumWith 84 = .ok (.iload 5, 2) := by decide +kernel
theorem d_Fi_sumWith_86 : decode b_Fi_sumWith 86 = .ok (.iastore, 1) := by decide +kernel
theorem d_Fi_sumWith_87 : decode b_Fi_sumWith 87 = .ok (.aload_n 0, 1) := by decide +kernel
theorem d_Fi_sumWith_88 : decode b_Fi_sumWith 88 = .ok (.iload_n 1, 1) := by decide +kernel
theorem d_Fi_sumWith_89 : decode b_Fi_sumWith 89 = .ok (.iconst 1, 1) := by decide +kernel
theorem d_Fi_sumWith_90 : decode b_Fi_sumWith 90 = .ok (.iadd, 1) := by decide +kernel
theorem d_Fi_sumWith_91 : decode b_Fi_sumWith 91 = .ok (.iload_n 2, 1) := by decide +kernel
theorem d_Fi_sumWith_92 : decode b_Fi_sumWith 92 = .ok (.iload_n 3, 1) := by decide +kernel
theorem d_Fi_sumWith_93 : decode b_Fi_sumWith 93 = .ok (.invokevirtual 42, 3) := by decide +kernel
theorem d_Fi_sumWith_96 : decode b_Fi_sumWith 96 = .ok (.istore 6, 2) := by decide +kernel
theorem d_Fi_sumWith_98 : decode b_Fi_sumWith 98 = .ok (.aload_n 0, 1) := by decide +kernel
theorem d_Fi_sumWith_99 : decode b_Fi_sumWith 99 = .ok (.getfield 23, 3) := by decide +kernel
theorem d_Fi_sumWith_102 : decode b_Fi_sumWith 102 = .ok (.iload 9, 2) := by decide +kernel
theorem d_Fi_sumWith_104 : decode b_Fi_sumWith 104 = .ok (.iload 10, 2) := by decide +kernel
theorem d_Fi_sumWith_106 : decode b_Fi_sumWith 106 = .ok (.iastore, 1) := by decide +kernel
theorem d_Fi_sumWith_107 : decode b_Fi_sumWith 107 = .ok (.aload_n 0, 1) := by decide +kernel
theorem d_Fi_sumWith_108 : decode b_Fi_sumWith 108 = .ok (.getfield 23, 3) := by decide +kernel
theorem d_Fi_sumWith_111 : decode b_Fi_sumWith 111 = .ok (.iload 7, 2) := by decide +kernel
theorem d_Fi_sumWith_113 : decode b_Fi_sumWith 113 = .ok (.iload 8, 2) := by decide +kernel
theorem d_Fi_sumWith_115 : decode b_Fi_sumWith 115 = .ok (.iastore, 1) := by decide +kernel
theorem d_Fi_sumWith_116 : decode b_Fi_sumWith 116 = .ok (.iload 6, 2) := by decide +kernel
theorem d_Fi_sumWith_118 : decode b_Fi_sumWith 118 = .ok (.ireturn, 1) := by decide +kernel
theorem d_Fi_sumFrom_0 : decode b_Fi_sumFrom 0 = .ok (.iload_n 1, 1) := by decide +kernel
theorem d_Fi_sumFrom_1 : decode b_Fi_sumFrom 1 = .ok (.aload_n 0, 1) := by decide +kernel
theorem d_Fi_sumFrom_2 : decode b_Fi_sumFrom 2 = .ok (.getfield 9, 3) := by decide +kernel
theorem d_Fi_sumFrom_5 : decode b_Fi_sumFrom 5 = .ok (.invokevirtual 46, 3) := by decide +kernel
theorem d_Fi_sumFrom_8 : decode b_Fi_sumFrom 8 = .ok (.if_icmp .lt 9, 3) := by decide +kernel
theorem d_Fi_sumFrom_11 : decode b_Fi_sumFrom 11 = .ok (.aload_n 0, 1) := by decide +kernel
theorem d_Fi_sumFrom_12 : decode b_Fi_sumFrom 12 = .ok (.iload_n 2, 1) := by decide +kernel
theorem d_Fi_sumFrom_13 : decode b_Fi_sumFrom 13 = .ok (.invokevirtual 49, 3) := by decide +kernel
theorem d_Fi_sumFrom_16 : decode b_Fi_sumFrom 16 = .ok (.ireturn, 1) := by decide +kernel
theorem d_Fi_sumFrom_17 : decode b_Fi_sumFrom 17 = .ok (.aload_n 0, 1) := by decide +kernel
theorem d_Fi_sumFrom_18 : decode b_Fi_sumFrom 18 = .ok (.getfield 15, 3) := by decide +kernel
theorem d_Fi_sumFrom_21 : decode b_Fi_sumFrom 21 = .ok (.iload_n 1, 1) := by decide +kernel
theorem d_Fi_sumFrom_22 : decode b_Fi_sumFrom 22 = .ok (.iload_n 2, 1) := by decide +kernel
theorem d_Fi_sumFrom_23 : decode b_Fi_sumFrom 23 = .ok (.invokevirtual 53, 3) := by decide +kernel
theorem d_Fi_sumFrom_26 : decode b_Fi_sumFrom 26 = .ok (.ifCond .ne 13, 3) := by decide +kernel
theorem d_Fi_sumFrom_29 : decode b_Fi_sumFrom 29 = .ok (.aload_n 0, 1) := by decide +kernel
theorem d_Fi_sumFrom_30 : decode b_Fi_sumFrom 30 = .ok (.iload_n 1, 1) := by decide +kernel
theorem d_Fi_sumFrom_31 : decode b_Fi_sumFrom 31 = .ok (.iconst 1, 1) := by decide +kernel
theorem d_Fi_sumFrom_32 : decode b_Fi_sumFrom 32 = .ok (.iadd, 1) := by decide +kernel
theorem d_Fi_sumFrom_33 : decode b_Fi_sumFrom 33 = .ok (.iload_n 2, 1) := by decide +kernel
theorem d_Fi_sumFrom_34 : decode b_Fi_sumFrom 34 = .ok (.iload_n 3, 1) := by decide +kernel
theorem d_Fi_sumFrom_35 : decode b_Fi_sumFrom 35 = .ok (.invokevirtual 42, 3) := by decide +kernel
theorem d_Fi_sumFrom_38 : decode b_Fi_sumFrom 38 = .ok (.ireturn, 1) := by decide +kernel
theorem d_Fi_sumFrom_39 : decode b_Fi_sumFrom 39 = .ok (.aload_n 0, 1) := by decide +kernel
theorem d_Fi_sumFrom_40 : decode b_Fi_sumFrom 40 = .ok (.getfield 15, 3) := by decide +kernel
theorem d_Fi_sumFrom_43 : decode b_Fi_sumFrom 43 = .ok (.iload_n 1, 1) := by decide +kernel
theorem d_Fi_sumFrom_44 : decode b_Fi_sumFrom 44 = .ok (.iload_n 2, 1) := by decide +kernel
theorem d_Fi_sumFrom_45 : decode b_Fi_sumFrom 45 = .ok (.invokevirtual 57, 3) := by decide +kernel
theorem d_Fi_sumFrom_48 : decode b_Fi_sumFrom 48 = .ok (.istore 4, 2) := by decide +kernel
theorem d_Fi_sumFrom_50 : decode b_Fi_sumFrom 50 = .ok (.aload_n 0, 1) := by decide +kernel
theorem d_Fi_sumFrom_51 : decode b_Fi_sumFrom 51 = .ok (.getfield 15, 3) := by decide +kernel
theorem d_Fi_sumFrom_54 : decode b_Fi_sumFrom 54 = .ok (.iload_n 1, 1) := by decide +kernel
theorem d_Fi_sumFrom_55 : decode b_Fi_sumFrom 55 = .ok (.iload_n 2, 1) := by decide +kernel
theorem d_Fi_sumFrom_56 : decode b_Fi_sumFrom 56 = .ok (.invokevirtual 61, 3) := by decide +kernel
theorem d_Fi_sumFrom_59 : decode b_Fi_sumFrom 59 = .ok (.istore 5, 2) := by decide +kernel
theorem d_Fi_sumFrom_61 : decode b_Fi_sumFrom 61 = .ok (.aload_n 0, 1) := by decide +kernel
theorem d_Fi_sumFrom_62 : decode b_Fi_sumFrom 62 = .ok (.iload_n 1, 1) := by decide +kernel
theorem d_Fi_sumFrom_63 : decode b_Fi_sumFrom 63 = .ok (.iload_n 2, 1) := by decide +kernel
theorem d_Fi_sumFrom_64 : decode b_Fi_sumFrom 64 = .ok (.iload_n 3, 1) := by decide +kernel
theorem d_Fi_sumFrom_65 : decode b_Fi_sumFrom 65 = .ok (.iload 4, 2) := by decide +kernel
theorem d_Fi_sumFrom_67 : decode b_Fi_sumFrom 67 = .ok (.iload 5, 2) := by decide +kernel
theorem d_Fi_sumFrom_69 : decode b_Fi_sumFrom 69 = .ok (.invokevirtual 64, 3) := by decide +kernel
theorem d_Fi_sumFrom_72 : decode b_Fi_sumFrom 72 = .ok (.istore 6, 2) := by decide +kernel
theorem d_Fi_sumFrom_74 : decode b_Fi_sumFrom 74 = .ok (.iload 4, 2) := by decide +kernel
theorem d_Fi_sumFrom_76 : decode b_Fi_sumFrom 76 = .ok (.iload 5, 2) := by decide +kernel
theorem d_Fi_sumFrom_78 : decode b_Fi_sumFrom 78 = .ok (.if_icmp .eq 19, 3) := by decide +kernel
theorem d_Fi_sumFrom_81 : decode b_Fi_sumFrom 81 = .ok (.iload 6, 2) := by decide +kernel
theorem d_Fi_sumFrom_83 : decode b_Fi_sumFrom 83 = .ok (.aload_n 0, 1) := by decide +kernel
theorem d_Fi_sumFrom_84 : decode b_Fi_sumFrom 84 = .ok (.iload_n 1, 1) := by decide +kernel
theorem d_Fi_sumFrom_85 : decode b_Fi_sumFrom 85 = .ok (.iload_n 2, 1) := by decide +kernel
theorem d_Fi_sumFrom_86 : decode b_Fi_sumFrom 86 = .ok (.iload_n 3, 1) := by decide +kernel
theorem d_Fi_sumFrom_87 : decode b_Fi_sumFrom 87 = .ok (.iload 5, 2) := by decide +kernel
theorem d_Fi_sumFrom_89 : decode b_Fi_sumFrom 89 = .ok (.iload 4, 2) := by decide +kernel
theorem d_Fi_sumFrom_91 : decode b_Fi_sumFrom 91 = .ok (.invokevirtual 64, 3) := by decide +kernel
theorem d_Fi_sumFrom_94 : decode b_Fi_sumFrom 94 = .ok (.iadd, 1) := by decide +kernel
theorem d_Fi_sumFrom_95 : decode b_Fi_sumFrom 95 = .ok (.istore 6, 2) := by decide +kernel
theorem d_Fi_sumFrom_97 : decode b_Fi_sumFrom 97 = .ok (.iload 6, 2) := by decide +kernel
theorem d_Fi_sumFrom_99 : decode b_Fi_sumFrom 99 = .ok (.ireturn, 1) := by decide +kernel
theorem d_Fi_renew_0 : decode b_Fi_renew 0 = .ok (.iconst 0, 1) := by decide +kernel
theorem d_Fi_renew_1 : decode b_Fi_renew 1 = .ok (.istore_n 2, 1) := by decide +kernel
theorem d_Fi_renew_2 : decode b_Fi_renew 2 = .ok (.iload_n 2, 1) := by decide +kernel
theorem d_Fi_renew_3 : decode b_Fi_renew 3 = .ok (.aload_n 0, 1) := by decide +kernel
theorem d_Fi_renew_4 : decode b_Fi_renew 4 = .ok (.getfield 9, 3) := by decide +kernel
theorem d_Fi_renew_7 : decode b_Fi_renew 7 = .ok (.invokevirtual 36, 3) := by decide +kernel
theorem d_Fi_renew_10 : decode b_Fi_renew 10 = .ok (.if_icmp .ge 27, 3) := by decide +kernel
theorem d_Fi_renew_13 : decode b_Fi_renew 13 = .ok (.aload_n 0, 1) := by decide +kernel
theorem d_Fi_renew_14 : decode b_Fi_renew 14 = .ok (.getfield 19, 3) := by decide +kernel
theorem d_Fi_renew_17 : decode b_Fi_renew 17 = .ok (.iload_n 1, 1) := by decide +kernel
theorem d_Fi_renew_18 : decode b_Fi_renew 18 = .ok (.bipush 64, 2) := by decide +kernel
theorem d_Fi_renew_20 : decode b_Fi_renew 20 = .ok (.imul, 1) := by decide +kernel
theorem d_Fi_renew_21 : decode b_Fi_renew 21 = .ok (.iload_n 2, 1) := by decide +kernel
theorem d_Fi_renew_22 : decode b_Fi_renew 22 = .ok (.iadd, 1) := by decide +kernel
theorem d_Fi_renew_23 : decode b_Fi_renew 23 = .ok (.aload_n 0, 1) := by decide +kernel
theorem d_Fi_renew_24 : decode b_Fi_renew 24 = .ok (.iconst 0, 1) := by decide +kernel
theorem d_Fi_renew_25 : decode b_Fi_renew 25 = .ok (.iload_n 1, 1) := by decide +kernel
theorem d_Fi_renew_26 : decode b_Fi_renew 26 = .ok (.iload_n 2, 1) := by decide +kernel
theorem d_Fi_renew_27 : decode b_Fi_renew 27 = .ok (.invokevirtual 42, 3) := by decide +kernel
theorem d_Fi_renew_30 : decode b_Fi_renew 30 = .ok (.iastore, 1) := by decide +kernel
theorem d_Fi_renew_31 : decode b_Fi_renew 31 = .ok (.iinc 2 1, 3) := by decide +kernel
theorem d_Fi_renew_34 : decode b_Fi_renew 34 = .ok (.goto (-32), 3) := by decide +kernel
theorem d_Fi_renew_37 : decode b_Fi_renew 37 = .ok (.return_, 1) := by decide +kernel
theorem d_Fi_renewAll_0 : decode b_Fi_renewAll 0 = .ok (.iconst 0, 1) := by decide +kernel
theorem d_Fi_renewAll_1 : decode b_Fi_renewAll 1 = .ok (.istore_n 1, 1) := by decide +kernel
theorem d_Fi_renewAll_2 : decode b_Fi_renewAll 2 = .ok (.iload_n 1, 1) := by decide +kernel
theorem d_Fi_renewAll_3 : decode b_Fi_renewAll 3 = .ok (.aload_n 0, 1) := by decide +kernel
theorem d_Fi_renewAll_4 : decode b_Fi_renewAll 4 = .ok (.getfield 15, 3) := by decide +kernel
theorem d_Fi_renewAll_7 : decode b_Fi_renewAll 7 = .ok (.getfield 26, 3) := by decide +kernel
theorem d_Fi_renewAll_10 : decode b_Fi_renewAll 10 = .ok (.if_icmp .ge 14, 3) := by decide +kernel
theorem d_Fi_renewAll_13 : decode b_Fi_renewAll 13 = .ok (.aload_n 0, 1) := by decide +kernel
theorem d_Fi_renewAll_14 : decode b_Fi_renewAll 14 = .ok (.iload_n 1, 1) := by decide +kernel
theorem d_Fi_renewAll_15 : decode b_Fi_renewAll 15 = .ok (.invokevirtual 32, 3) := by decide +kernel
theorem d_Fi_renewAll_18 : decode b_Fi_renewAll 18 = .ok (.iinc 1 1, 3) := by decide +kernel
theorem d_Fi_renewAll_21 : decode b_Fi_renewAll 21 = .ok (.goto (-19), 3) := by decide +kernel
theorem d_Fi_renewAll_24 : decode b_Fi_renewAll 24 = .ok (.return_, 1) := by decide +kernel
