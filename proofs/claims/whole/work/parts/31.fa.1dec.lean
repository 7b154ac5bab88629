theorem d_Fa_persons_0 : decode b_Fa_persons 0 = .ok (.aload_n 0, 1) := by decide +kernel
theorem d_Fa_persons_1 : decode b_Fa_persons 1 = .ok (.getfield 21, 3) := by decide +kernel
theorem d_Fa_persons_4 : decode b_Fa_persons 4 = .ok (.aload_n 0, 1) := by decide +kernel
theorem d_Fa_persons_5 : decode b_Fa_persons 5 = .ok (.getfield 25, 3) := by decide +kernel
theorem d_Fa_persons_8 : decode b_Fa_persons 8 = .ok (.iadd, 1) := by decide +kernel
theorem d_Fa_persons_9 : decode b_Fa_persons 9 = .ok (.ireturn, 1) := by decide +kernel
theorem d_Fa_bits_0 : decode b_Fa_bits 0 = .ok (.iconst 2, 1) := by decide +kernel
theorem d_Fa_bits_1 : decode b_Fa_bits 1 = .ok (.aload_n 0, 1) := by decide +kernel
theorem d_Fa_bits_2 : decode b_Fa_bits 2 = .ok (.getfield 25, 3) := by decide +kernel
theorem d_Fa_bits_5 : decode b_Fa_bits 5 = .ok (.imul, 1) := by decide +kernel
theorem d_Fa_bits_6 : decode b_Fa_bits 6 = .ok (.ireturn, 1) := by decide +kernel
theorem d_Fa_ways_0 : decode b_Fa_ways 0 = .ok (.iconst 1, 1) := by decide +kernel
theorem d_Fa_ways_1 : decode b_Fa_ways 1 = .ok (.aload_n 0, 1) := by decide +kernel
theorem d_Fa_ways_2 : decode b_Fa_ways 2 = .ok (.invokevirtual 28, 3) := by decide +kernel
theorem d_Fa_ways_5 : decode b_Fa_ways 5 = .ok (.ishl, 1) := by decide +kernel
theorem d_Fa_ways_6 : decode b_Fa_ways 6 = .ok (.ireturn, 1) := by decide +kernel
theorem d_Fa_hasPerson_0 : decode b_Fa_hasPerson 0 = .ok (.iload_n 1, 1) := by decide +kernel
theorem d_Fa_hasPerson_1 : decode b_Fa_hasPerson 1 = .ok (.ifCond .lt 15, 3) := by decide +kernel
theorem d_Fa_hasPerson_4 : decode b_Fa_hasPerson 4 = .ok (.iload_n 1, 1) := by decide +kernel
theorem d_Fa_hasPerson_5 : decode b_Fa_hasPerson 5 = .ok (.aload_n 0, 1) := by decide +kernel
theorem d_Fa_hasPerson_6 : decode b_Fa_hasPerson 6 = .ok (.invokevirtual 32, 3) := by decide +kernel
theorem d_Fa_hasPerson_9 : decode b_Fa_hasPerson 9 = .ok (.if_icmp .ge 7, 3) := by decide +kernel
theorem d_Fa_hasPerson_12 : decode b_Fa_hasPerson 12 = .ok (.iconst 1, 1) := by decide +kernel
theorem d_Fa_hasPerson_13 : decode b_Fa_hasPerson 13 = .ok (.goto 4, 3) := by decide +kernel
theorem d_Fa_hasPerson_16 : decode b_Fa_hasPerson 16 = .ok (.iconst 0, 1) := by decide +kernel
theorem d_Fa_hasPerson_17 : decode b_Fa_hasPerson 17 = .ok (.ireturn, 1) := by decide +kernel
theorem d_Fa_hasWay_0 : decode b_Fa_hasWay 0 = .ok (.iload_n 1, 1) := by decide +kernel
theorem d_Fa_hasWay_1 : decode b_Fa_hasWay 1 = .ok (.ifCond .lt 15, 3) := by decide +kernel
theorem d_Fa_hasWay_4 : decode b_Fa_hasWay 4 = .ok (.iload_n 1, 1) := by decide +kernel
theorem d_Fa_hasWay_5 : decode b_Fa_hasWay 5 = .ok (.aload_n 0, 1) := by decide +kernel
theorem d_Fa_hasWay_6 : decode b_Fa_hasWay 6 = .ok (.invokevirtual 35, 3) := by decide +kernel
theorem d_Fa_hasWay_9 : decode b_Fa_hasWay 9 = .ok (.if_icmp .ge 7, 3) := by decide +kernel
theorem d_Fa_hasWay_12 : decode b_Fa_hasWay 12 = .ok (.iconst 1, 1) := by decide +kernel
theorem d_Fa_hasWay_13 : decode b_Fa_hasWay 13 = .ok (.goto 4, 3) := by decide +kernel
theorem d_Fa_hasWay_16 : decode b_Fa_hasWay 16 = .ok (.iconst 0, 1) := by decide +kernel
theorem d_Fa_hasWay_17 : decode b_Fa_hasWay 17 = .ok (.ireturn, 1) := by decide +kernel
theorem d_Fa_addFounder_0 : decode b_Fa_addFounder 0 = .ok (.aload_n 0, 1) := by decide +kernel
theorem d_Fa_addFounder_1 : decode b_Fa_addFounder 1 = .ok (.invokevirtual 32, 3) := by decide +kernel
theorem d_Fa_addFounder_4 : decode b_Fa_addFounder 4 = .ok (.istore_n 1, 1) := by decide +kernel
theorem d_Fa_addFounder_5 : decode b_Fa_addFounder 5 = .ok (.aload_n 0, 1) := by decide +kernel
theorem d_Fa_addFounder_6 : decode b_Fa_addFounder 6 = .ok (.getfield 9, 3) := by decide +kernel
theorem d_Fa_addFounder_9 : decode b_Fa_addFounder 9 = .ok (.iload_n 1, 1) := by decide +kernel
theorem d_Fa_addFounder_10 : decode b_Fa_addFounder 10 = .ok (.iconst (-1), 1) := by decide +kernel
theorem d_Fa_addFounder_11 : decode b_Fa_addFounder 11 = .ok (.iastore, 1) := by decide +kernel
theorem d_Fa_addFounder_12 : decode b_Fa_addFounder 12 = .ok (.aload_n 0, 1) := by decide +kernel
theorem d_Fa_addFounder_13 : decode b_Fa_addFounder 13 = .ok (.getfield 15, 3) := by decide +kernel
theorem d_Fa_addFounder_16 : decode b_Fa_addFounder 16 = .ok (.iload_n 1, 1) := by decide +kernel
theorem d_Fa_addFounder_17 : decode b_Fa_addFounder 17 = .ok (.iconst (-1), 1) := by decide +kernel
theorem d_Fa_addFounder_18 : decode b_Fa_addFounder 18 = .ok (.iastore, 1) := by decide +kernel
theorem d_Fa_addFounder_19 : decode b_Fa_addFounder 19 = .ok (.aload_n 0, 1) := by decide +kernel
theorem d_Fa_addFounder_20 : decode b_Fa_addFounder 20 = .ok (.getfield 18, 3) := by decide +kernel
theorem d_Fa_addFounder_23 : decode b_Fa_addFounder 23 = .ok (.iload_n 1, 1) := by decide +kernel
theorem d_Fa_addFounder_24 : decode b_Fa_addFounder 24 = .ok (.aload_n 0, 1) := by decide +kernel
theorem d_Fa_addFounder_25 : decode b_Fa_addFounder 25 = .ok (.getfield 21, 3) := by decide +kernel
theorem d_Fa_addFounder_28 : decode b_Fa_addFounder 28 = .ok (.iastore, 1) := by decide +kernel
theorem d_Fa_addFounder_29 : decode b_Fa_addFounder 29 = .ok (.aload_n 0, 1) := by decide +kernel
theorem d_Fa_addFounder_30 : decode b_Fa_addFounder 30 = .ok (.dup, 1) := by decide +kernel
theorem d_Fa_addFounder_31 : decode b_Fa_addFounder 31 = .ok (.getfield 21, 3) := by decide +kernel
theorem d_Fa_addFounder_34 : decode b_Fa_addFounder 34 = .ok (.iconst 1, 1) := by decide +kernel
theorem d_Fa_addFounder_35 : decode b_Fa_addFounder 35 = .ok (.iadd, 1) := by decide +kernel
theorem d_Fa_addFounder_36 : decode b_Fa_addFounder 36 = .ok (.putfield 21, 3) := by decide +kernel
theorem d_Fa_addFounder_39 : decode b_Fa_addFounder 39 = .ok (.iload_n 1, 1) := by decide +kernel
theorem d_Fa_addFounder_40 : decode b_Fa_addFounder 40 = .ok (.ireturn, 1) := by decide +kernel
theorem d_Fa_addChild_0 : decode b_Fa_addChild 0 = .ok (.aload_n 0, 1) := by decide +kernel
theorem d_Fa_addChild_1 : decode b_Fa_addChild 1 = .ok (.invokevirtual 32, 3) := by decide +kernel
theorem d_Fa_addChild_4 : decode b_Fa_addChild 4 = .ok (.istore_n 3, 1) := by decide +kernel
theorem d_Fa_addChild_5 : decode b_Fa_addChild 5 = .ok (.aload_n 0, 1) := by decide +kernel
theorem d_Fa_addChild_6 : decode b_Fa_addChild 6 = .ok (.getfield 9, 3) := by decide +kernel
theorem d_Fa_addChild_9 : decode b_Fa_addChild 9 = .ok (.iload_n 3, 1) := by decide +kernel
theorem d_Fa_addChild_10 : decode b_Fa_addChild 10 = .ok (.iload_n 1, 1) := by decide +kernel
theorem d_Fa_addChild_11 : decode b_Fa_addChild 11 = .ok (.iastore, 1) := by decide +kernel
theorem d_Fa_addChild_12 : decode b_Fa_addChild 12 = .ok (.aload_n 0, 1) := by decide +kernel
theorem d_Fa_addChild_13 : decode b_Fa_addChild 13 = .ok (.getfield 15, 3) := by decide +kernel
theorem d_Fa_addChild_16 : decode b_Fa_addChild 16 = .ok (.iload_n 3, 1) := by decide +kernel
theorem d_Fa_addChild_17 : decode b_Fa_addChild 17 = .ok (.iload_n 2, 1) := by decide +kernel
theorem d_Fa_addChild_18 : decode b_Fa_addChild 18 = .ok (.iastore, 1) := by decide +kernel
theorem d_Fa_addChild_19 : decode b_Fa_addChild 19 = .ok (.aload_n 0, 1) := by decide +kernel
theorem d_Fa_addChild_20 : decode b_Fa_addChild 20 = .ok (.getfield 18, 3) := by decide +kernel
theorem d_Fa_addChild_23 : decode b_Fa_addChild 23 = .ok (.iload_n 3, 1) := by decide +kernel
theorem d_Fa_addChild_24 : decode b_Fa_addChild 24 = .ok (.aload_n 0, 1) := by decide +kernel
theorem d_Fa_addChild_25 : decode b_Fa_addChild 25 = .ok (.getfield 25, 3) := by decide +kernel
theorem d_Fa_addChild_28 : decode b_Fa_addChild 28 = .ok (.iastore, 1) := by decide +kernel
theorem d_Fa_addChild_29 : decode b_Fa_addChild 29 = .ok (.aload_n 0, 1) := by decide +kernel
theorem d_Fa_addChild_30 : decode b_Fa_addChild 30 = .ok (.dup, 1) := by decide +kernel
theorem d_Fa_addChild_31 : decode b_Fa_addChild 31 = .ok (.getfield 25, 3) := by decide +kernel
theorem d_Fa_addChild_34 : decode b_Fa_addChild 34 = .ok (.iconst 1, 1) := by decide +kernel
theorem d_Fa_addChild_35 : decode b_Fa_addChild 35 = .ok (.iadd, 1) := by decide +kernel
theorem d_Fa_addChild_36 : decode b_Fa_addChild 36 = .ok (.putfield 25, 3) := by decide +kernel
theorem d_Fa_addChild_39 : decode b_Fa_addChild 39 = .ok (.iload_n 3, 1) := by decide +kernel
theorem d_Fa_addChild_40 : decode b_Fa_addChild 40 = .ok (.ireturn, 1) := by decide +kernel
theorem d_Fa_sourceOf_0 : decode b_Fa_sourceOf 0 = .ok (.iload_n 1, 1) := by decide +kernel
theorem d_Fa_sourceOf_1 : decode b_Fa_sourceOf 1 = .ok (.istore 4, 2) := by decide +kernel
theorem d_Fa_sourceOf_3 : decode b_Fa_sourceOf 3 = .ok (.iload_n 2, 1) := by decide +kernel
theorem d_Fa_sourceOf_4 : decode b_Fa_sourceOf 4 = .ok (.istore 5, 2) := by decide +kernel
theorem d_Fa_sourceOf_6 : decode b_Fa_sourceOf 6 = .ok (.iconst 0, 1) := by decide +kernel
theorem d_Fa_sourceOf_7 : decode b_Fa_sourceOf 7 = .ok (.istore 6, 2) := by decide +kernel
theorem d_Fa_sourceOf_9 : decode b_Fa_sourceOf 9 = .ok (.iload 6, 2) := by decide +kernel
theorem d_Fa_sourceOf_11 : decode b_Fa_sourceOf 11 = .ok (.iconst 3, 1) := by decide +kernel
theorem d_Fa_sourceOf_12 : decode b_Fa_sourceOf 12 = .ok (.if_icmp .ge 66, 3) := by decide +kernel
theorem d_Fa_sourceOf_15 : decode b_Fa_sourceOf 15 = .ok (.aload_n 0, 1) := by decide +kernel
theorem d_Fa_sourceOf_16 : decode b_Fa_sourceOf 16 = .ok (.getfield 9, 3) := by decide +kernel
theorem d_Fa_sourceOf_19 : decode b_Fa_sourceOf 19 = .ok (.iload 4, 2) := by decide +kernel
theorem d_Fa_sourceOf_21 : decode b_Fa_sourceOf 21 = .ok (.iaload, 1) := by decide +kernel
theorem d_Fa_sourceOf_22 : decode b_Fa_sourceOf 22 = .ok (.iconst (-1), 1) := by decide +kernel
theorem d_Fa_sourceOf_23 : decode b_Fa_sourceOf 23 = .ok (.if_icmp .eq 55, 3) := by decide +kernel
theorem d_Fa_sourceOf_26 : decode b_Fa_sourceOf 26 = .ok (.iload_n 3, 1) := by decide +kernel
theorem d_Fa_sourceOf_27 : decode b_Fa_sourceOf 27 = .ok (.iconst 2, 1) := by decide +kernel
theorem d_Fa_sourceOf_28 : decode b_Fa_sourceOf 28 = .ok (.aload_n 0, 1) := by decide +kernel
theorem d_Fa_sourceOf_29 : decode b_Fa_sourceOf 29 = .ok (.getfield 18, 3) := by decide +kernel
theorem d_Fa_sourceOf_32 : decode b_Fa_sourceOf 32 = .ok (.iload 4, 2) := by decide +kernel
theorem d_Fa_sourceOf_34 : decode b_Fa_sourceOf 34 = .ok (.iaload, 1) := by decide +kernel
theorem d_Fa_sourceOf_35 : decode b_Fa_sourceOf 35 = .ok (.imul, 1) := by decide +kernel
theorem d_Fa_sourceOf_36 : decode b_Fa_sourceOf 36 = .ok (.iload 5, 2) := by decide +kernel
theorem d_Fa_sourceOf_38 : decode b_Fa_sourceOf 38 = .ok (.iadd, 1) := by decide +kernel
theorem d_Fa_sourceOf_39 : decode b_Fa_sourceOf 39 = .ok (.ishr, 1) := by decide +kernel
theorem d_Fa_sourceOf_40 : decode b_Fa_sourceOf 40 = .ok (.iconst 1, 1) := by decide +kernel
theorem d_Fa_sourceOf_41 : decode b_Fa_sourceOf 41 = .ok (.iand, 1) := by decide +kernel
theorem d_Fa_sourceOf_42 : decode b_Fa_sourceOf 42 = .ok (.istore 7, 2) := by decide +kernel
theorem d_Fa_sourceOf_44 : decode b_Fa_sourceOf 44 = .ok (.iload 5, 2) := by decide +kernel
theorem d_Fa_sourceOf_46 : decode b_Fa_sourceOf 46 = .ok (.ifCond .ne 13, 3) := by decide +kernel
theorem d_Fa_sourceOf_49 : decode b_Fa_sourceOf 49 = .ok (.aload_n 0, 1) := by decide +kernel
theorem d_Fa_sourceOf_50 : decode b_Fa_sourceOf 50 = .ok (.getfield 9, 3) := by decide +kernel
theorem d_Fa_sourceOf_53 : decode b_Fa_sourceOf 53 = .ok (.iload 4, 2) := by decide +kernel
theorem d_Fa_sourceOf_55 : decode b_Fa_sourceOf 55 = .ok (.iaload, 1) := by decide +kernel
theorem d_Fa_sourceOf_56 : decode b_Fa_sourceOf 56 = .ok (.goto 10, 3) := by decide +kernel
theorem d_Fa_sourceOf_59 : decode b_Fa_sourceOf 59 = .ok (.aload_n 0, 1) := by decide +kernel
theorem d_Fa_sourceOf_60 : decode b_Fa_sourceOf 60 = .ok (.getfield 15, 3) := by decide +kernel
theorem d_Fa_sourceOf_63 : decode b_Fa_sourceOf 63 = .ok (.iload 4, 2) := by decide +kernel
theorem d_Fa_sourceOf_65 : decode b_Fa_sourceOf 65 = .ok (.iaload, 1) := by decide +kernel
theorem d_Fa_sourceOf_66 : decode b_Fa_sourceOf 66 = .ok (.istore 4, 2) := by decide +kernel
theorem d_Fa_sourceOf_68 : decode b_Fa_sourceOf 68 = .ok (.iload 7, 2) := by decide +kernel
theorem d_Fa_sourceOf_70 : decode b_Fa_sourceOf 70 = .ok (.istore 5, 2) := by decide +kernel
theorem d_Fa_sourceOf_72 : decode b_Fa_sourceOf 72 = .ok (.iinc 6 1, 3) := by decide +kernel
theorem d_Fa_sourceOf_75 : decode b_Fa_sourceOf 75 = .ok (.goto (-66), 3) := by decide +kernel
theorem d_Fa_sourceOf_78 : decode b_Fa_sourceOf 78 = .ok (.iconst 2, 1) := by decide +kernel
theorem d_Fa_sourceOf_79 : decode b_Fa_sourceOf 79 = .ok (.aload_n 0, 1) := by decide +kernel
theorem d_Fa_sourceOf_80 : decode b_Fa_sourceOf 80 = .ok (.getfield 18, 3) := by decide +kernel
theorem d_Fa_sourceOf_83 : decode b_Fa_sourceOf 83 = .ok (.iload 4, 2) := by decide +kernel
theorem d_Fa_sourceOf_85 : decode b_Fa_sourceOf 85 = .ok (.iaload, 1) := by decide +kernel
theorem d_Fa_sourceOf_86 : decode b_Fa_sourceOf 86 = .ok (.imul, 1) := by decide +kernel
theorem d_Fa_sourceOf_87 : decode b_Fa_sourceOf 87 = .ok (.iload 5, 2) := by decide +kernel
theorem d_Fa_sourceOf_89 : decode b_Fa_sourceOf 89 = .ok (.iadd, 1) := by decide +kernel
theorem d_Fa_sourceOf_90 : decode b_Fa_sourceOf 90 = .ok (.ireturn, 1) := by decide +kernel
theorem d_Fa_shareCopy_0 : decode b_Fa_shareCopy 0 = .ok (.aload_n 0, 1) := by decide +kernel
theorem d_Fa_shareCopy_1 : decode b_Fa_shareCopy 1 = .ok (.iload_n 1, 1) := by decide +kernel
theorem d_Fa_shareCopy_2 : decode b_Fa_shareCopy 2 = .ok (.iconst 0, 1) := by decide +kernel
theorem d_Fa_shareCopy_3 : decode b_Fa_shareCopy 3 = .ok (.iload_n 3, 1) := by decide +kernel
theorem d_Fa_shareCopy_4 : decode b_Fa_shareCopy 4 = .ok (.invokevirtual 38, 3) := by decide +kernel
theorem d_Fa_shareCopy_7 : decode b_Fa_shareCopy 7 = .ok (.istore 4, 2) := by decide +kernel
theorem d_Fa_shareCopy_9 : decode b_Fa_shareCopy 9 = .ok (.aload_n 0, 1) := by decide +kernel
theorem d_Fa_shareCopy_10 : decode b_Fa_shareCopy 10 = .ok (.iload_n 1, 1) := by decide +kernel
theorem d_Fa_shareCopy_11 : decode b_Fa_shareCopy 11 = .ok (.iconst 1, 1) := by decide +kernel
theorem d_Fa_shareCopy_12 : decode b_Fa_shareCopy 12 = .ok (.iload_n 3, 1) := by decide +kernel
theorem d_Fa_shareCopy_13 : decode b_Fa_shareCopy 13 = .ok (.invokevirtual 38, 3) := by decide +kernel
theorem d_Fa_shareCopy_16 : decode b_Fa_shareCopy 16 = .ok (.istore 5, 2) := by decide +kernel
theorem d_Fa_shareCopy_18 : decode b_Fa_shareCopy 18 = .ok (.aload_n 0, 1) := by decide +kernel
theorem d_Fa_shareCopy_19 : decode b_Fa_shareCopy 19 = .ok (.iload_n 2, 1) := by decide +kernel
theorem d_Fa_shareCopy_20 : decode b_Fa_shareCopy 20 = .ok (.iconst 0, 1) := by decide +kernel
theorem d_Fa_shareCopy_21 : decode b_Fa_shareCopy 21 = .ok (.iload_n 3, 1) := by decide +kernel
theorem d_Fa_shareCopy_22 : decode b_Fa_shareCopy 22 = .ok (.invokevirtual 38, 3) := by decide +kernel
theorem d_Fa_shareCopy_25 : decode b_Fa_shareCopy 25 = .ok (.istore 6, 2) := by decide +kernel
theorem d_Fa_shareCopy_27 : decode b_Fa_shareCopy 27 = .ok (.aload_n 0, 1) := by decide +kernel
theorem d_Fa_shareCopy_28 : decode b_Fa_shareCopy 28 = .ok (.iload_n 2, 1) := by decide +kernel
theorem d_Fa_shareCopy_29 : decode b_Fa_shareCopy 29 = .ok (.iconst 1, 1) := by decide +kernel
theorem d_Fa_shareCopy_30 : decode b_Fa_shareCopy 30 = .ok (.iload_n 3, 1) := by decide +kernel
theorem d_Fa_shareCopy_31 : decode b_Fa_shareCopy 31 = .ok (.invokevirtual 38, 3) := by decide +kernel
theorem d_Fa_shareCopy_34 : decode b_Fa_shareCopy 34 = .ok (.istore 7, 2) := by decide +kernel
theorem d_Fa_shareCopy_36 : decode b_Fa_shareCopy 36 = .ok (.iload 4, 2) := by decide +kernel
theorem d_Fa_shareCopy_38 : decode b_Fa_shareCopy 38 = .ok (.iload 6, 2) := by decide +kernel
theorem d_Fa_shareCopy_40 : decode b_Fa_shareCopy 40 = .ok (.if_icmp .eq 24, 3) := by decide +kernel
theorem d_Fa_shareCopy_43 : decode b_Fa_shareCopy 43 = .ok (.iload 4, 2) := by decide +kernel
theorem d_Fa_shareCopy_45 : decode b_Fa_shareCopy 45 = .ok (.iload 7, 2) := by decide +kernel
theorem d_Fa_shareCopy_47 : decode b_Fa_shareCopy 47 = .ok (.if_icmp .eq 17, 3) := by decide +kernel
theorem d_Fa_shareCopy_50 : decode b_Fa_shareCopy 50 = .ok (.iload 5, 2) := by decide +kernel
theorem d_Fa_shareCopy_52 : decode b_Fa_shareCopy 52 = .ok (.iload 6, 2) := by decide +kernel
theorem d_Fa_shareCopy_54 : decode b_Fa_shareCopy 54 = .ok (.if_icmp .eq 10, 3) := by decide +kernel
theorem d_Fa_shareCopy_57 : decode b_Fa_shareCopy 57 = .ok (.iload 5, 2) := by decide +kernel
theorem d_Fa_shareCopy_59 : decode b_Fa_shareCopy 59 = .ok (.iload 7, 2) := by decide +kernel
theorem d_Fa_shareCopy_61 : decode b_Fa_shareCopy 61 = .ok (.if_icmp .ne 7, 3) := by decide +kernel
theorem d_Fa_shareCopy_64 : decode b_Fa_shareCopy 64 = .ok (.iconst 1, 1) := by decide +kernel
theorem d_Fa_shareCopy_65 : decode b_Fa_shareCopy 65 = .ok (.goto 4, 3) := by decide +kernel
theorem d_Fa_shareCopy_68 : decode b_Fa_shareCopy 68 = .ok (.iconst 0, 1) := by decide +kernel
theorem d_Fa_shareCopy_69 : decode b_Fa_shareCopy 69 = .ok (.ireturn, 1) := by decide +kernel
