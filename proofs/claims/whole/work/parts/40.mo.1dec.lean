theorem d_Mo_thrown_0 : decode b_Mo_thrown 0 = .ok (.aload_n 0, 1) := by decide +kernel
theorem d_Mo_thrown_1 : decode b_Mo_thrown 1 = .ok (.getfield 76, 3) := by decide +kernel
theorem d_Mo_thrown_4 : decode b_Mo_thrown 4 = .ok (.ireturn, 1) := by decide +kernel
theorem d_Mo_refused_0 : decode b_Mo_refused 0 = .ok (.aload_n 0, 1) := by decide +kernel
theorem d_Mo_refused_1 : decode b_Mo_refused 1 = .ok (.iload_n 1, 1) := by decide +kernel
theorem d_Mo_refused_2 : decode b_Mo_refused 2 = .ok (.putfield 76, 3) := by decide +kernel
theorem d_Mo_refused_5 : decode b_Mo_refused 5 = .ok (.iload_n 1, 1) := by decide +kernel
theorem d_Mo_refused_6 : decode b_Mo_refused 6 = .ok (.ifCond .le 7, 3) := by decide +kernel
theorem d_Mo_refused_9 : decode b_Mo_refused 9 = .ok (.iconst 1, 1) := by decide +kernel
theorem d_Mo_refused_10 : decode b_Mo_refused 10 = .ok (.goto 4, 3) := by decide +kernel
theorem d_Mo_refused_13 : decode b_Mo_refused 13 = .ok (.iconst 0, 1) := by decide +kernel
theorem d_Mo_refused_14 : decode b_Mo_refused 14 = .ok (.ireturn, 1) := by decide +kernel
theorem d_Mo_isAnySeen_0 : decode b_Mo_isAnySeen 0 = .ok (.iconst 0, 1) := by decide +kernel
theorem d_Mo_isAnySeen_1 : decode b_Mo_isAnySeen 1 = .ok (.istore_n 1, 1) := by decide +kernel
theorem d_Mo_isAnySeen_2 : decode b_Mo_isAnySeen 2 = .ok (.iconst 0, 1) := by decide +kernel
theorem d_Mo_isAnySeen_3 : decode b_Mo_isAnySeen 3 = .ok (.istore_n 2, 1) := by decide +kernel
theorem d_Mo_isAnySeen_4 : decode b_Mo_isAnySeen 4 = .ok (.iload_n 2, 1) := by decide +kernel
theorem d_Mo_isAnySeen_5 : decode b_Mo_isAnySeen 5 = .ok (.bipush 24, 2) := by decide +kernel
theorem d_Mo_isAnySeen_7 : decode b_Mo_isAnySeen 7 = .ok (.if_icmp .ge 28, 3) := by decide +kernel
theorem d_Mo_isAnySeen_10 : decode b_Mo_isAnySeen 10 = .ok (.iload_n 1, 1) := by decide +kernel
theorem d_Mo_isAnySeen_11 : decode b_Mo_isAnySeen 11 = .ok (.ifCond .ne 12, 3) := by decide +kernel
theorem d_Mo_isAnySeen_14 : decode b_Mo_isAnySeen 14 = .ok (.aload_n 0, 1) := by decide +kernel
theorem d_Mo_isAnySeen_15 : decode b_Mo_isAnySeen 15 = .ok (.getfield 28, 3) := by decide +kernel
theorem d_Mo_isAnySeen_18 : decode b_Mo_isAnySeen 18 = .ok (.iload_n 2, 1) := by decide +kernel
theorem d_Mo_isAnySeen_19 : decode b_Mo_isAnySeen 19 = .ok (.iaload, 1) := by decide +kernel
theorem d_Mo_isAnySeen_20 : decode b_Mo_isAnySeen 20 = .ok (.ifCond .le 7, 3) := by decide +kernel
theorem d_Mo_isAnySeen_23 : decode b_Mo_isAnySeen 23 = .ok (.iconst 1, 1) := by decide +kernel
theorem d_Mo_isAnySeen_24 : decode b_Mo_isAnySeen 24 = .ok (.goto 4, 3) := by decide +kernel
theorem d_Mo_isAnySeen_27 : decode b_Mo_isAnySeen 27 = .ok (.iconst 0, 1) := by decide +kernel
theorem d_Mo_isAnySeen_28 : decode b_Mo_isAnySeen 28 = .ok (.istore_n 1, 1) := by decide +kernel
theorem d_Mo_isAnySeen_29 : decode b_Mo_isAnySeen 29 = .ok (.iinc 2 1, 3) := by decide +kernel
theorem d_Mo_isAnySeen_32 : decode b_Mo_isAnySeen 32 = .ok (.goto (-28), 3) := by decide +kernel
theorem d_Mo_isAnySeen_35 : decode b_Mo_isAnySeen 35 = .ok (.iload_n 1, 1) := by decide +kernel
theorem d_Mo_isAnySeen_36 : decode b_Mo_isAnySeen 36 = .ok (.ireturn, 1) := by decide +kernel
theorem d_Mo_isPerson_0 : decode b_Mo_isPerson 0 = .ok (.iload_n 1, 1) := by decide +kernel
theorem d_Mo_isPerson_1 : decode b_Mo_isPerson 1 = .ok (.ifCond .lt 15, 3) := by decide +kernel
theorem d_Mo_isPerson_4 : decode b_Mo_isPerson 4 = .ok (.iload_n 1, 1) := by decide +kernel
theorem d_Mo_isPerson_5 : decode b_Mo_isPerson 5 = .ok (.aload_n 0, 1) := by decide +kernel
theorem d_Mo_isPerson_6 : decode b_Mo_isPerson 6 = .ok (.getfield 80, 3) := by decide +kernel
theorem d_Mo_isPerson_9 : decode b_Mo_isPerson 9 = .ok (.if_icmp .ge 7, 3) := by decide +kernel
theorem d_Mo_isPerson_12 : decode b_Mo_isPerson 12 = .ok (.iconst 1, 1) := by decide +kernel
theorem d_Mo_isPerson_13 : decode b_Mo_isPerson 13 = .ok (.goto 4, 3) := by decide +kernel
theorem d_Mo_isPerson_16 : decode b_Mo_isPerson 16 = .ok (.iconst 0, 1) := by decide +kernel
theorem d_Mo_isPerson_17 : decode b_Mo_isPerson 17 = .ok (.ireturn, 1) := by decide +kernel
theorem d_Mo_isMarker_0 : decode b_Mo_isMarker 0 = .ok (.iload_n 1, 1) := by decide +kernel
theorem d_Mo_isMarker_1 : decode b_Mo_isMarker 1 = .ok (.ifCond .lt 15, 3) := by decide +kernel
theorem d_Mo_isMarker_4 : decode b_Mo_isMarker 4 = .ok (.iload_n 1, 1) := by decide +kernel
theorem d_Mo_isMarker_5 : decode b_Mo_isMarker 5 = .ok (.aload_n 0, 1) := by decide +kernel
theorem d_Mo_isMarker_6 : decode b_Mo_isMarker 6 = .ok (.getfield 83, 3) := by decide +kernel
theorem d_Mo_isMarker_9 : decode b_Mo_isMarker 9 = .ok (.if_icmp .ge 7, 3) := by decide +kernel
theorem d_Mo_isMarker_12 : decode b_Mo_isMarker 12 = .ok (.iconst 1, 1) := by decide +kernel
theorem d_Mo_isMarker_13 : decode b_Mo_isMarker 13 = .ok (.goto 4, 3) := by decide +kernel
theorem d_Mo_isMarker_16 : decode b_Mo_isMarker 16 = .ok (.iconst 0, 1) := by decide +kernel
theorem d_Mo_isMarker_17 : decode b_Mo_isMarker 17 = .ok (.ireturn, 1) := by decide +kernel
theorem d_Mo_isGap_0 : decode b_Mo_isGap 0 = .ok (.iload_n 1, 1) := by decide +kernel
theorem d_Mo_isGap_1 : decode b_Mo_isGap 1 = .ok (.ifCond .lt 17, 3) := by decide +kernel
theorem d_Mo_isGap_4 : decode b_Mo_isGap 4 = .ok (.iload_n 1, 1) := by decide +kernel
theorem d_Mo_isGap_5 : decode b_Mo_isGap 5 = .ok (.aload_n 0, 1) := by decide +kernel
theorem d_Mo_isGap_6 : decode b_Mo_isGap 6 = .ok (.getfield 83, 3) := by decide +kernel
theorem d_Mo_isGap_9 : decode b_Mo_isGap 9 = .ok (.iconst 1, 1) := by decide +kernel
theorem d_Mo_isGap_10 : decode b_Mo_isGap 10 = .ok (.isub, 1) := by decide +kernel
theorem d_Mo_isGap_11 : decode b_Mo_isGap 11 = .ok (.if_icmp .ge 7, 3) := by decide +kernel
theorem d_Mo_isGap_14 : decode b_Mo_isGap 14 = .ok (.iconst 1, 1) := by decide +kernel
theorem d_Mo_isGap_15 : decode b_Mo_isGap 15 = .ok (.goto 4, 3) := by decide +kernel
theorem d_Mo_isGap_18 : decode b_Mo_isGap 18 = .ok (.iconst 0, 1) := by decide +kernel
theorem d_Mo_isGap_19 : decode b_Mo_isGap 19 = .ok (.ireturn, 1) := by decide +kernel
theorem d_Mo_forget_0 : decode b_Mo_forget 0 = .ok (.iconst 0, 1) := by decide +kernel
theorem d_Mo_forget_1 : decode b_Mo_forget 1 = .ok (.istore_n 1, 1) := by decide +kernel
theorem d_Mo_forget_2 : decode b_Mo_forget 2 = .ok (.iload_n 1, 1) := by decide +kernel
theorem d_Mo_forget_3 : decode b_Mo_forget 3 = .ok (.iconst 4, 1) := by decide +kernel
theorem d_Mo_forget_4 : decode b_Mo_forget 4 = .ok (.if_icmp .ge 16, 3) := by decide +kernel
theorem d_Mo_forget_7 : decode b_Mo_forget 7 = .ok (.aload_n 0, 1) := by decide +kernel
theorem d_Mo_forget_8 : decode b_Mo_forget 8 = .ok (.getfield 34, 3) := by decide +kernel
theorem d_Mo_forget_11 : decode b_Mo_forget 11 = .ok (.iload_n 1, 1) := by decide +kernel
theorem d_Mo_forget_12 : decode b_Mo_forget 12 = .ok (.iconst 0, 1) := by decide +kernel
theorem d_Mo_forget_13 : decode b_Mo_forget 13 = .ok (.bastore, 1) := by decide +kernel
theorem d_Mo_forget_14 : decode b_Mo_forget 14 = .ok (.iinc 1 1, 3) := by decide +kernel
theorem d_Mo_forget_17 : decode b_Mo_forget 17 = .ok (.goto (-15), 3) := by decide +kernel
theorem d_Mo_forget_20 : decode b_Mo_forget 20 = .ok (.return_, 1) := by decide +kernel
theorem d_Mo_ways_0 : decode b_Mo_ways 0 = .ok (.iconst 1, 1) := by decide +kernel
theorem d_Mo_ways_1 : decode b_Mo_ways 1 = .ok (.iconst 2, 1) := by decide +kernel
theorem d_Mo_ways_2 : decode b_Mo_ways 2 = .ok (.aload_n 0, 1) := by decide +kernel
theorem d_Mo_ways_3 : decode b_Mo_ways 3 = .ok (.getfield 86, 3) := by decide +kernel
theorem d_Mo_ways_6 : decode b_Mo_ways 6 = .ok (.imul, 1) := by decide +kernel
theorem d_Mo_ways_7 : decode b_Mo_ways 7 = .ok (.ishl, 1) := by decide +kernel
theorem d_Mo_ways_8 : decode b_Mo_ways 8 = .ok (.ireturn, 1) := by decide +kernel
theorem d_Mo_isWay_0 : decode b_Mo_isWay 0 = .ok (.iload_n 1, 1) := by decide +kernel
theorem d_Mo_isWay_1 : decode b_Mo_isWay 1 = .ok (.ifCond .lt 15, 3) := by decide +kernel
theorem d_Mo_isWay_4 : decode b_Mo_isWay 4 = .ok (.iload_n 1, 1) := by decide +kernel
theorem d_Mo_isWay_5 : decode b_Mo_isWay 5 = .ok (.aload_n 0, 1) := by decide +kernel
theorem d_Mo_isWay_6 : decode b_Mo_isWay 6 = .ok (.invokevirtual 115, 3) := by decide +kernel
theorem d_Mo_isWay_9 : decode b_Mo_isWay 9 = .ok (.if_icmp .ge 7, 3) := by decide +kernel
theorem d_Mo_isWay_12 : decode b_Mo_isWay 12 = .ok (.iconst 1, 1) := by decide +kernel
theorem d_Mo_isWay_13 : decode b_Mo_isWay 13 = .ok (.goto 4, 3) := by decide +kernel
theorem d_Mo_isWay_16 : decode b_Mo_isWay 16 = .ok (.iconst 0, 1) := by decide +kernel
theorem d_Mo_isWay_17 : decode b_Mo_isWay 17 = .ok (.ireturn, 1) := by decide +kernel
theorem d_Mo_originOf_0 : decode b_Mo_originOf 0 = .ok (.iload_n 1, 1) := by decide +kernel
theorem d_Mo_originOf_1 : decode b_Mo_originOf 1 = .ok (.istore 4, 2) := by decide +kernel
theorem d_Mo_originOf_3 : decode b_Mo_originOf 3 = .ok (.iload_n 2, 1) := by decide +kernel
theorem d_Mo_originOf_4 : decode b_Mo_originOf 4 = .ok (.istore 5, 2) := by decide +kernel
theorem d_Mo_originOf_6 : decode b_Mo_originOf 6 = .ok (.aload_n 0, 1) := by decide +kernel
theorem d_Mo_originOf_7 : decode b_Mo_originOf 7 = .ok (.getfield 13, 3) := by decide +kernel
theorem d_Mo_originOf_10 : decode b_Mo_originOf 10 = .ok (.iload 4, 2) := by decide +kernel
theorem d_Mo_originOf_12 : decode b_Mo_originOf 12 = .ok (.iaload, 1) := by decide +kernel
theorem d_Mo_originOf_13 : decode b_Mo_originOf 13 = .ok (.ifCond .lt 52, 3) := by decide +kernel
theorem d_Mo_originOf_16 : decode b_Mo_originOf 16 = .ok (.iload_n 3, 1) := by decide +kernel
theorem d_Mo_originOf_17 : decode b_Mo_originOf 17 = .ok (.iconst 2, 1) := by decide +kernel
theorem d_Mo_originOf_18 : decode b_Mo_originOf 18 = .ok (.aload_n 0, 1) := by decide +kernel
theorem d_Mo_originOf_19 : decode b_Mo_originOf 19 = .ok (.getfield 7, 3) := by decide +kernel
theorem d_Mo_originOf_22 : decode b_Mo_originOf 22 = .ok (.iload 4, 2) := by decide +kernel
theorem d_Mo_originOf_24 : decode b_Mo_originOf 24 = .ok (.iaload, 1) := by decide +kernel
theorem d_Mo_originOf_25 : decode b_Mo_originOf 25 = .ok (.imul, 1) := by decide +kernel
theorem d_Mo_originOf_26 : decode b_Mo_originOf 26 = .ok (.iload 5, 2) := by decide +kernel
theorem d_Mo_originOf_28 : decode b_Mo_originOf 28 = .ok (.iadd, 1) := by decide +kernel
theorem d_Mo_originOf_29 : decode b_Mo_originOf 29 = .ok (.ishr, 1) := by decide +kernel
theorem d_Mo_originOf_30 : decode b_Mo_originOf 30 = .ok (.iconst 1, 1) := by decide +kernel
theorem d_Mo_originOf_31 : decode b_Mo_originOf 31 = .ok (.iand, 1) := by decide +kernel
theorem d_Mo_originOf_32 : decode b_Mo_originOf 32 = .ok (.istore 6, 2) := by decide +kernel
theorem d_Mo_originOf_34 : decode b_Mo_originOf 34 = .ok (.iload 5, 2) := by decide +kernel
theorem d_Mo_originOf_36 : decode b_Mo_originOf 36 = .ok (.ifCond .ne 13, 3) := by decide +kernel
theorem d_Mo_originOf_39 : decode b_Mo_originOf 39 = .ok (.aload_n 0, 1) := by decide +kernel
theorem d_Mo_originOf_40 : decode b_Mo_originOf 40 = .ok (.getfield 13, 3) := by decide +kernel
theorem d_Mo_originOf_43 : decode b_Mo_originOf 43 = .ok (.iload 4, 2) := by decide +kernel
theorem d_Mo_originOf_45 : decode b_Mo_originOf 45 = .ok (.iaload, 1) := by decide +kernel
theorem d_Mo_originOf_46 : decode b_Mo_originOf 46 = .ok (.goto 10, 3) := by decide +kernel
theorem d_Mo_originOf_49 : decode b_Mo_originOf 49 = .ok (.aload_n 0, 1) := by decide +kernel
theorem d_Mo_originOf_50 : decode b_Mo_originOf 50 = .ok (.getfield 16, 3) := by decide +kernel
theorem d_Mo_originOf_53 : decode b_Mo_originOf 53 = .ok (.iload 4, 2) := by decide +kernel
theorem d_Mo_originOf_55 : decode b_Mo_originOf 55 = .ok (.iaload, 1) := by decide +kernel
theorem d_Mo_originOf_56 : decode b_Mo_originOf 56 = .ok (.istore 4, 2) := by decide +kernel
theorem d_Mo_originOf_58 : decode b_Mo_originOf 58 = .ok (.iload 6, 2) := by decide +kernel
theorem d_Mo_originOf_60 : decode b_Mo_originOf 60 = .ok (.istore 5, 2) := by decide +kernel
theorem d_Mo_originOf_62 : decode b_Mo_originOf 62 = .ok (.goto (-56), 3) := by decide +kernel
theorem d_Mo_originOf_65 : decode b_Mo_originOf 65 = .ok (.iconst 2, 1) := by decide +kernel
theorem d_Mo_originOf_66 : decode b_Mo_originOf 66 = .ok (.aload_n 0, 1) := by decide +kernel
theorem d_Mo_originOf_67 : decode b_Mo_originOf 67 = .ok (.getfield 7, 3) := by decide +kernel
theorem d_Mo_originOf_70 : decode b_Mo_originOf 70 = .ok (.iload 4, 2) := by decide +kernel
theorem d_Mo_originOf_72 : decode b_Mo_originOf 72 = .ok (.iaload, 1) := by decide +kernel
theorem d_Mo_originOf_73 : decode b_Mo_originOf 73 = .ok (.imul, 1) := by decide +kernel
theorem d_Mo_originOf_74 : decode b_Mo_originOf 74 = .ok (.iload 5, 2) := by decide +kernel
theorem d_Mo_originOf_76 : decode b_Mo_originOf 76 = .ok (.iadd, 1) := by decide +kernel
theorem d_Mo_originOf_77 : decode b_Mo_originOf 77 = .ok (.ireturn, 1) := by decide +kernel
theorem d_Mo_isSo_0 : decode b_Mo_isSo 0 = .ok (.iconst 1, 1) := by decide +kernel
theorem d_Mo_isSo_1 : decode b_Mo_isSo 1 = .ok (.istore_n 3, 1) := by decide +kernel
theorem d_Mo_isSo_2 : decode b_Mo_isSo 2 = .ok (.iconst 0, 1) := by decide +kernel
theorem d_Mo_isSo_3 : decode b_Mo_isSo 3 = .ok (.istore 4, 2) := by decide +kernel
theorem d_Mo_isSo_5 : decode b_Mo_isSo 5 = .ok (.iload 4, 2) := by decide +kernel
theorem d_Mo_isSo_7 : decode b_Mo_isSo 7 = .ok (.aload_n 0, 1) := by decide +kernel
theorem d_Mo_isSo_8 : decode b_Mo_isSo 8 = .ok (.getfield 80, 3) := by decide +kernel
theorem d_Mo_isSo_11 : decode b_Mo_isSo 11 = .ok (.if_icmp .ge 98, 3) := by decide +kernel
theorem d_Mo_isSo_14 : decode b_Mo_isSo 14 = .ok (.iload_n 3, 1) := by decide +kernel
theorem d_Mo_isSo_15 : decode b_Mo_isSo 15 = .ok (.ifCond .eq 94, 3) := by decide +kernel
theorem d_Mo_isSo_18 : decode b_Mo_isSo 18 = .ok (.aload_n 0, 1) := by decide +kernel
theorem d_Mo_isSo_19 : decode b_Mo_isSo 19 = .ok (.getfield 28, 3) := by decide +kernel
theorem d_Mo_isSo_22 : decode b_Mo_isSo 22 = .ok (.iconst 4, 1) := by decide +kernel
theorem d_Mo_isSo_23 : decode b_Mo_isSo 23 = .ok (.iload 4, 2) := by decide +kernel
theorem d_Mo_isSo_25 : decode b_Mo_isSo 25 = .ok (.imul, 1) := by decide +kernel
theorem d_Mo_isSo_26 : decode b_Mo_isSo 26 = .ok (.iload_n 1, 1) := by decide +kernel
theorem d_Mo_isSo_27 : decode b_Mo_isSo 27 = .ok (.iadd, 1) := by decide +kernel
theorem d_Mo_isSo_28 : decode b_Mo_isSo 28 = .ok (.iaload, 1) := by decide +kernel
theorem d_Mo_isSo_29 : decode b_Mo_isSo 29 = .ok (.istore 5, 2) := by decide +kernel
theorem d_Mo_isSo_31 : decode b_Mo_isSo 31 = .ok (.iload 5, 2) := by decide +kernel
theorem d_Mo_isSo_33 : decode b_Mo_isSo 33 = .ok (.ifCond .le 70, 3) := by decide +kernel
theorem d_Mo_isSo_36 : decode b_Mo_isSo 36 = .ok (.aload_n 0, 1) := by decide +kernel
theorem d_Mo_isSo_37 : decode b_Mo_isSo 37 = .ok (.getfield 31, 3) := by decide +kernel
theorem d_Mo_isSo_40 : decode b_Mo_isSo 40 = .ok (.aload_n 0, 1) := by decide +kernel
theorem d_Mo_isSo_41 : decode b_Mo_isSo 41 = .ok (.iload 4, 2) := by decide +kernel
theorem d_Mo_isSo_43 : decode b_Mo_isSo 43 = .ok (.iconst 0, 1) := by decide +kernel
theorem d_Mo_isSo_44 : decode b_Mo_isSo 44 = .ok (.iload_n 2, 1) := by decide +kernel
theorem d_Mo_isSo_45 : decode b_Mo_isSo 45 = .ok (.invokevirtual 122, 3) := by decide +kernel
theorem d_Mo_isSo_48 : decode b_Mo_isSo 48 = .ok (.iaload, 1) := by decide +kernel
theorem d_Mo_isSo_49 : decode b_Mo_isSo 49 = .ok (.istore 6, 2) := by decide +kernel
theorem d_Mo_isSo_51 : decode b_Mo_isSo 51 = .ok (.aload_n 0, 1) := by decide +kernel
theorem d_Mo_isSo_52 : decode b_Mo_isSo 52 = .ok (.getfield 31, 3) := by decide +kernel
theorem d_Mo_isSo_55 : decode b_Mo_isSo 55 = .ok (.aload_n 0, 1) := by decide +kernel
theorem d_Mo_isSo_56 : decode b_Mo_isSo 56 = .ok (.iload 4, 2) := by decide +kernel
theorem d_Mo_isSo_58 : decode b_Mo_isSo 58 = .ok (.iconst 1, 1) := by decide +kernel
theorem d_Mo_isSo_59 : decode b_Mo_isSo 59 = .ok (.iload_n 2, 1) := by decide +kernel
theorem d_Mo_isSo_60 : decode b_Mo_isSo 60 = .ok (.invokevirtual 122, 3) := by decide +kernel
theorem d_Mo_isSo_63 : decode b_Mo_isSo 63 = .ok (.iaload, 1) := by decide +kernel
theorem d_Mo_isSo_64 : decode b_Mo_isSo 64 = .ok (.istore 7, 2) := by decide +kernel
theorem d_Mo_isSo_66 : decode b_Mo_isSo 66 = .ok (.iload 6, 2) := by decide +kernel
theorem d_Mo_isSo_68 : decode b_Mo_isSo 68 = .ok (.iload 7, 2) := by decide +kernel
theorem d_Mo_isSo_70 : decode b_Mo_isSo 70 = .ok (.if_icmp .ge 14, 3) := by decide +kernel
theorem d_Mo_isSo_73 : decode b_Mo_isSo 73 = .ok (.bipush 10, 2) := by decide +kernel
theorem d_Mo_isSo_75 : decode b_Mo_isSo 75 = .ok (.iload 6, 2) := by decide +kernel
theorem d_Mo_isSo_77 : decode b_Mo_isSo 77 = .ok (.imul, 1) := by decide +kernel
theorem d_Mo_isSo_78 : decode b_Mo_isSo 78 = .ok (.iload 7, 2) := by decide +kernel
theorem d_Mo_isSo_80 : decode b_Mo_isSo 80 = .ok (.iadd, 1) := by decide +kernel
theorem d_Mo_isSo_81 : decode b_Mo_isSo 81 = .ok (.goto 11, 3) := by decide +kernel
theorem d_Mo_isSo_84 : decode b_Mo_isSo 84 = .ok (.bipush 10, 2) := by decide +kernel
theorem d_Mo_isSo_86 : decode b_Mo_isSo 86 = .ok (.iload 7, 2) := by decide +kernel
theorem d_Mo_isSo_88 : decode b_Mo_isSo 88 = .ok (.imul, 1) := by decide +kernel
theorem d_Mo_isSo_89 : decode b_Mo_isSo 89 = .ok (.iload 6, 2) := by decide +kernel
theorem d_Mo_isSo_91 : decode b_Mo_isSo 91 = .ok (.iadd, 1) := by decide +kernel
theorem d_Mo_isSo_92 : decode b_Mo_isSo 92 = .ok (.iload 5, 2) := by decide +kernel
theorem d_Mo_isSo_94 : decode b_Mo_isSo 94 = .ok (.if_icmp .ne 7, 3) := by decide +kernel
theorem d_Mo_isSo_97 : decode b_Mo_isSo 97 = .ok (.iconst 1, 1) := by decide +kernel
theorem d_Mo_isSo_98 : decode b_Mo_isSo 98 = .ok (.goto 4, 3) := by decide +kernel
theorem d_Mo_isSo_101 : decode b_Mo_isSo 101 = .ok (.iconst 0, 1) := by decide +kernel
theorem d_Mo_isSo_102 : decode b_Mo_isSo 102 = .ok (.istore_n 3, 1) := by decide +kernel
theorem d_Mo_isSo_103 : decode b_Mo_isSo 103 = .ok (.iinc 4 1, 3) := by decide +kernel
theorem d_Mo_isSo_106 : decode b_Mo_isSo 106 = .ok (.goto (-101), 3) := by decide +kernel
theorem d_Mo_isSo_109 : decode b_Mo_isSo 109 = .ok (.iload_n 3, 1) := by decide +kernel
theorem d_Mo_isSo_110 : decode b_Mo_isSo 110 = .ok (.ireturn, 1) := by decide +kernel
