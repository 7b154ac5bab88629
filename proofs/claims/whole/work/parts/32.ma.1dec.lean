theorem d_Ma_gaps_0 : decode b_Ma_gaps 0 = .ok (.aload_n 0, 1) := by decide +kernel
theorem d_Ma_gaps_1 : decode b_Ma_gaps 1 = .ok (.getfield 24, 3) := by decide +kernel
theorem d_Ma_gaps_4 : decode b_Ma_gaps 4 = .ok (.ifCond .le 12, 3) := by decide +kernel
theorem d_Ma_gaps_7 : decode b_Ma_gaps 7 = .ok (.aload_n 0, 1) := by decide +kernel
theorem d_Ma_gaps_8 : decode b_Ma_gaps 8 = .ok (.getfield 24, 3) := by decide +kernel
theorem d_Ma_gaps_11 : decode b_Ma_gaps 11 = .ok (.iconst 1, 1) := by decide +kernel
theorem d_Ma_gaps_12 : decode b_Ma_gaps 12 = .ok (.isub, 1) := by decide +kernel
theorem d_Ma_gaps_13 : decode b_Ma_gaps 13 = .ok (.goto 4, 3) := by decide +kernel
theorem d_Ma_gaps_16 : decode b_Ma_gaps 16 = .ok (.iconst 0, 1) := by decide +kernel
theorem d_Ma_gaps_17 : decode b_Ma_gaps 17 = .ok (.ireturn, 1) := by decide +kernel
theorem d_Ma_hasMarker_0 : decode b_Ma_hasMarker 0 = .ok (.iload_n 1, 1) := by decide +kernel
theorem d_Ma_hasMarker_1 : decode b_Ma_hasMarker 1 = .ok (.ifCond .lt 15, 3) := by decide +kernel
theorem d_Ma_hasMarker_4 : decode b_Ma_hasMarker 4 = .ok (.iload_n 1, 1) := by decide +kernel
theorem d_Ma_hasMarker_5 : decode b_Ma_hasMarker 5 = .ok (.aload_n 0, 1) := by decide +kernel
theorem d_Ma_hasMarker_6 : decode b_Ma_hasMarker 6 = .ok (.getfield 24, 3) := by decide +kernel
theorem d_Ma_hasMarker_9 : decode b_Ma_hasMarker 9 = .ok (.if_icmp .ge 7, 3) := by decide +kernel
theorem d_Ma_hasMarker_12 : decode b_Ma_hasMarker 12 = .ok (.iconst 1, 1) := by decide +kernel
theorem d_Ma_hasMarker_13 : decode b_Ma_hasMarker 13 = .ok (.goto 4, 3) := by decide +kernel
theorem d_Ma_hasMarker_16 : decode b_Ma_hasMarker 16 = .ok (.iconst 0, 1) := by decide +kernel
theorem d_Ma_hasMarker_17 : decode b_Ma_hasMarker 17 = .ok (.ireturn, 1) := by decide +kernel
theorem d_Ma_hasGap_0 : decode b_Ma_hasGap 0 = .ok (.iload_n 1, 1) := by decide +kernel
theorem d_Ma_hasGap_1 : decode b_Ma_hasGap 1 = .ok (.ifCond .lt 15, 3) := by decide +kernel
theorem d_Ma_hasGap_4 : decode b_Ma_hasGap 4 = .ok (.iload_n 1, 1) := by decide +kernel
theorem d_Ma_hasGap_5 : decode b_Ma_hasGap 5 = .ok (.aload_n 0, 1) := by decide +kernel
theorem d_Ma_hasGap_6 : decode b_Ma_hasGap 6 = .ok (.invokevirtual 31, 3) := by decide +kernel
theorem d_Ma_hasGap_9 : decode b_Ma_hasGap 9 = .ok (.if_icmp .ge 7, 3) := by decide +kernel
theorem d_Ma_hasGap_12 : decode b_Ma_hasGap 12 = .ok (.iconst 1, 1) := by decide +kernel
theorem d_Ma_hasGap_13 : decode b_Ma_hasGap 13 = .ok (.goto 4, 3) := by decide +kernel
theorem d_Ma_hasGap_16 : decode b_Ma_hasGap 16 = .ok (.iconst 0, 1) := by decide +kernel
theorem d_Ma_hasGap_17 : decode b_Ma_hasGap 17 = .ok (.ireturn, 1) := by decide +kernel
theorem d_Ma_add_0 : decode b_Ma_add 0 = .ok (.aload_n 0, 1) := by decide +kernel
theorem d_Ma_add_1 : decode b_Ma_add 1 = .ok (.getfield 24, 3) := by decide +kernel
theorem d_Ma_add_4 : decode b_Ma_add 4 = .ok (.istore 4, 2) := by decide +kernel
theorem d_Ma_add_6 : decode b_Ma_add 6 = .ok (.aload_n 0, 1) := by decide +kernel
theorem d_Ma_add_7 : decode b_Ma_add 7 = .ok (.getfield 9, 3) := by decide +kernel
theorem d_Ma_add_10 : decode b_Ma_add 10 = .ok (.iload 4, 2) := by decide +kernel
theorem d_Ma_add_12 : decode b_Ma_add 12 = .ok (.iconst 3, 1) := by decide +kernel
theorem d_Ma_add_13 : decode b_Ma_add 13 = .ok (.imul, 1) := by decide +kernel
theorem d_Ma_add_14 : decode b_Ma_add 14 = .ok (.iload_n 1, 1) := by decide +kernel
theorem d_Ma_add_15 : decode b_Ma_add 15 = .ok (.iastore, 1) := by decide +kernel
theorem d_Ma_add_16 : decode b_Ma_add 16 = .ok (.aload_n 0, 1) := by decide +kernel
theorem d_Ma_add_17 : decode b_Ma_add 17 = .ok (.getfield 9, 3) := by decide +kernel
theorem d_Ma_add_20 : decode b_Ma_add 20 = .ok (.iload 4, 2) := by decide +kernel
theorem d_Ma_add_22 : decode b_Ma_add 22 = .ok (.iconst 3, 1) := by decide +kernel
theorem d_Ma_add_23 : decode b_Ma_add 23 = .ok (.imul, 1) := by decide +kernel
theorem d_Ma_add_24 : decode b_Ma_add 24 = .ok (.iconst 1, 1) := by decide +kernel
theorem d_Ma_add_25 : decode b_Ma_add 25 = .ok (.iadd, 1) := by decide +kernel
theorem d_Ma_add_26 : decode b_Ma_add 26 = .ok (.iload_n 2, 1) := by decide +kernel
theorem d_Ma_add_27 : decode b_Ma_add 27 = .ok (.iastore, 1) := by decide +kernel
theorem d_Ma_add_28 : decode b_Ma_add 28 = .ok (.aload_n 0, 1) := by decide +kernel
theorem d_Ma_add_29 : decode b_Ma_add 29 = .ok (.getfield 9, 3) := by decide +kernel
theorem d_Ma_add_32 : decode b_Ma_add 32 = .ok (.iload 4, 2) := by decide +kernel
theorem d_Ma_add_34 : decode b_Ma_add 34 = .ok (.iconst 3, 1) := by decide +kernel
theorem d_Ma_add_35 : decode b_Ma_add 35 = .ok (.imul, 1) := by decide +kernel
theorem d_Ma_add_36 : decode b_Ma_add 36 = .ok (.iconst 2, 1) := by decide +kernel
theorem d_Ma_add_37 : decode b_Ma_add 37 = .ok (.iadd, 1) := by decide +kernel
theorem d_Ma_add_38 : decode b_Ma_add 38 = .ok (.iload_n 3, 1) := by decide +kernel
theorem d_Ma_add_39 : decode b_Ma_add 39 = .ok (.iastore, 1) := by decide +kernel
theorem d_Ma_add_40 : decode b_Ma_add 40 = .ok (.iload 4, 2) := by decide +kernel
theorem d_Ma_add_42 : decode b_Ma_add 42 = .ok (.ifCond .le 14, 3) := by decide +kernel
theorem d_Ma_add_45 : decode b_Ma_add 45 = .ok (.aload_n 0, 1) := by decide +kernel
theorem d_Ma_add_46 : decode b_Ma_add 46 = .ok (.getfield 15, 3) := by decide +kernel
theorem d_Ma_add_49 : decode b_Ma_add 49 = .ok (.iload 4, 2) := by decide +kernel
theorem d_Ma_add_51 : decode b_Ma_add 51 = .ok (.iconst 1, 1) := by decide +kernel
theorem d_Ma_add_52 : decode b_Ma_add 52 = .ok (.isub, 1) := by decide +kernel
theorem d_Ma_add_53 : decode b_Ma_add 53 = .ok (.bipush 8, 2) := by decide +kernel
theorem d_Ma_add_55 : decode b_Ma_add 55 = .ok (.iastore, 1) := by decide +kernel
theorem d_Ma_add_56 : decode b_Ma_add 56 = .ok (.aload_n 0, 1) := by decide +kernel
theorem d_Ma_add_57 : decode b_Ma_add 57 = .ok (.dup, 1) := by decide +kernel
theorem d_Ma_add_58 : decode b_Ma_add 58 = .ok (.getfield 24, 3) := by decide +kernel
theorem d_Ma_add_61 : decode b_Ma_add 61 = .ok (.iconst 1, 1) := by decide +kernel
theorem d_Ma_add_62 : decode b_Ma_add 62 = .ok (.iadd, 1) := by decide +kernel
theorem d_Ma_add_63 : decode b_Ma_add 63 = .ok (.putfield 24, 3) := by decide +kernel
theorem d_Ma_add_66 : decode b_Ma_add 66 = .ok (.iload 4, 2) := by decide +kernel
theorem d_Ma_add_68 : decode b_Ma_add 68 = .ok (.ireturn, 1) := by decide +kernel
theorem d_Ma_weightOf_0 : decode b_Ma_weightOf 0 = .ok (.iload_n 2, 1) := by decide +kernel
theorem d_Ma_weightOf_1 : decode b_Ma_weightOf 1 = .ok (.ifCond .ne 8, 3) := by decide +kernel
theorem d_Ma_weightOf_4 : decode b_Ma_weightOf 4 = .ok (.bipush 8, 2) := by decide +kernel
theorem d_Ma_weightOf_6 : decode b_Ma_weightOf 6 = .ok (.goto 15, 3) := by decide +kernel
theorem d_Ma_weightOf_9 : decode b_Ma_weightOf 9 = .ok (.aload_n 0, 1) := by decide +kernel
theorem d_Ma_weightOf_10 : decode b_Ma_weightOf 10 = .ok (.getfield 9, 3) := by decide +kernel
theorem d_Ma_weightOf_13 : decode b_Ma_weightOf 13 = .ok (.iload_n 1, 1) := by decide +kernel
theorem d_Ma_weightOf_14 : decode b_Ma_weightOf 14 = .ok (.iconst 3, 1) := by decide +kernel
theorem d_Ma_weightOf_15 : decode b_Ma_weightOf 15 = .ok (.imul, 1) := by decide +kernel
theorem d_Ma_weightOf_16 : decode b_Ma_weightOf 16 = .ok (.iload_n 2, 1) := by decide +kernel
theorem d_Ma_weightOf_17 : decode b_Ma_weightOf 17 = .ok (.iadd, 1) := by decide +kernel
theorem d_Ma_weightOf_18 : decode b_Ma_weightOf 18 = .ok (.iconst 1, 1) := by decide +kernel
theorem d_Ma_weightOf_19 : decode b_Ma_weightOf 19 = .ok (.isub, 1) := by decide +kernel
theorem d_Ma_weightOf_20 : decode b_Ma_weightOf 20 = .ok (.iaload, 1) := by decide +kernel
theorem d_Ma_weightOf_21 : decode b_Ma_weightOf 21 = .ok (.ireturn, 1) := by decide +kernel
theorem d_Ma_isSeen_0 : decode b_Ma_isSeen 0 = .ok (.aload_n 0, 1) := by decide +kernel
theorem d_Ma_isSeen_1 : decode b_Ma_isSeen 1 = .ok (.getfield 18, 3) := by decide +kernel
theorem d_Ma_isSeen_4 : decode b_Ma_isSeen 4 = .ok (.iload_n 2, 1) := by decide +kernel
theorem d_Ma_isSeen_5 : decode b_Ma_isSeen 5 = .ok (.bipush 6, 2) := by decide +kernel
theorem d_Ma_isSeen_7 : decode b_Ma_isSeen 7 = .ok (.imul, 1) := by decide +kernel
theorem d_Ma_isSeen_8 : decode b_Ma_isSeen 8 = .ok (.iload_n 1, 1) := by decide +kernel
theorem d_Ma_isSeen_9 : decode b_Ma_isSeen 9 = .ok (.iadd, 1) := by decide +kernel
theorem d_Ma_isSeen_10 : decode b_Ma_isSeen 10 = .ok (.iaload, 1) := by decide +kernel
theorem d_Ma_isSeen_11 : decode b_Ma_isSeen 11 = .ok (.ifCond .eq 7, 3) := by decide +kernel
theorem d_Ma_isSeen_14 : decode b_Ma_isSeen 14 = .ok (.iconst 1, 1) := by decide +kernel
theorem d_Ma_isSeen_15 : decode b_Ma_isSeen 15 = .ok (.goto 4, 3) := by decide +kernel
theorem d_Ma_isSeen_18 : decode b_Ma_isSeen 18 = .ok (.iconst 0, 1) := by decide +kernel
theorem d_Ma_isSeen_19 : decode b_Ma_isSeen 19 = .ok (.ireturn, 1) := by decide +kernel
theorem d_Ma_oneLetter_0 : decode b_Ma_oneLetter 0 = .ok (.aload_n 0, 1) := by decide +kernel
theorem d_Ma_oneLetter_1 : decode b_Ma_oneLetter 1 = .ok (.getfield 18, 3) := by decide +kernel
theorem d_Ma_oneLetter_4 : decode b_Ma_oneLetter 4 = .ok (.iload_n 2, 1) := by decide +kernel
theorem d_Ma_oneLetter_5 : decode b_Ma_oneLetter 5 = .ok (.bipush 6, 2) := by decide +kernel
theorem d_Ma_oneLetter_7 : decode b_Ma_oneLetter 7 = .ok (.imul, 1) := by decide +kernel
theorem d_Ma_oneLetter_8 : decode b_Ma_oneLetter 8 = .ok (.iload_n 1, 1) := by decide +kernel
theorem d_Ma_oneLetter_9 : decode b_Ma_oneLetter 9 = .ok (.iadd, 1) := by decide +kernel
theorem d_Ma_oneLetter_10 : decode b_Ma_oneLetter 10 = .ok (.iaload, 1) := by decide +kernel
theorem d_Ma_oneLetter_11 : decode b_Ma_oneLetter 11 = .ok (.ireturn, 1) := by decide +kernel
theorem d_Ma_otherLetter_0 : decode b_Ma_otherLetter 0 = .ok (.aload_n 0, 1) := by decide +kernel
theorem d_Ma_otherLetter_1 : decode b_Ma_otherLetter 1 = .ok (.getfield 21, 3) := by decide +kernel
theorem d_Ma_otherLetter_4 : decode b_Ma_otherLetter 4 = .ok (.iload_n 2, 1) := by decide +kernel
theorem d_Ma_otherLetter_5 : decode b_Ma_otherLetter 5 = .ok (.bipush 6, 2) := by decide +kernel
theorem d_Ma_otherLetter_7 : decode b_Ma_otherLetter 7 = .ok (.imul, 1) := by decide +kernel
theorem d_Ma_otherLetter_8 : decode b_Ma_otherLetter 8 = .ok (.iload_n 1, 1) := by decide +kernel
theorem d_Ma_otherLetter_9 : decode b_Ma_otherLetter 9 = .ok (.iadd, 1) := by decide +kernel
theorem d_Ma_otherLetter_10 : decode b_Ma_otherLetter 10 = .ok (.iaload, 1) := by decide +kernel
theorem d_Ma_otherLetter_11 : decode b_Ma_otherLetter 11 = .ok (.ireturn, 1) := by decide +kernel
theorem d_Ma_putSighting_0 : decode b_Ma_putSighting 0 = .ok (.aload_n 0, 1) := by decide +kernel
theorem d_Ma_putSighting_1 : decode b_Ma_putSighting 1 = .ok (.iload_n 1, 1) := by decide +kernel
theorem d_Ma_putSighting_2 : decode b_Ma_putSighting 2 = .ok (.iload_n 2, 1) := by decide +kernel
theorem d_Ma_putSighting_3 : decode b_Ma_putSighting 3 = .ok (.invokevirtual 35, 3) := by decide +kernel
theorem d_Ma_putSighting_6 : decode b_Ma_putSighting 6 = .ok (.ifCond .ne 13, 3) := by decide +kernel
theorem d_Ma_putSighting_9 : decode b_Ma_putSighting 9 = .ok (.aload_n 0, 1) := by decide +kernel
theorem d_Ma_putSighting_10 : decode b_Ma_putSighting 10 = .ok (.dup, 1) := by decide +kernel
theorem d_Ma_putSighting_11 : decode b_Ma_putSighting 11 = .ok (.getfield 28, 3) := by decide +kernel
theorem d_Ma_putSighting_14 : decode b_Ma_putSighting 14 = .ok (.iconst 1, 1) := by decide +kernel
theorem d_Ma_putSighting_15 : decode b_Ma_putSighting 15 = .ok (.iadd, 1) := by decide +kernel
theorem d_Ma_putSighting_16 : decode b_Ma_putSighting 16 = .ok (.putfield 28, 3) := by decide +kernel
theorem d_Ma_putSighting_19 : decode b_Ma_putSighting 19 = .ok (.aload_n 0, 1) := by decide +kernel
theorem d_Ma_putSighting_20 : decode b_Ma_putSighting 20 = .ok (.getfield 18, 3) := by decide +kernel
theorem d_Ma_putSighting_23 : decode b_Ma_putSighting 23 = .ok (.iload_n 2, 1) := by decide +kernel
theorem d_Ma_putSighting_24 : decode b_Ma_putSighting 24 = .ok (.bipush 6, 2) := by decide +kernel
theorem d_Ma_putSighting_26 : decode b_Ma_putSighting 26 = .ok (.imul, 1) := by decide +kernel
theorem d_Ma_putSighting_27 : decode b_Ma_putSighting 27 = .ok (.iload_n 1, 1) := by decide +kernel
theorem d_Ma_putSighting_28 : decode b_Ma_putSighting 28 = .ok (.iadd, 1) := by decide +kernel
theorem d_Ma_putSighting_29 : decode b_Ma_putSighting 29 = .ok (.iload_n 3, 1) := by decide +kernel
theorem d_Ma_putSighting_30 : decode b_Ma_putSighting 30 = .ok (.iastore, 1) := by decide +kernel
theorem d_Ma_putSighting_31 : decode b_Ma_putSighting 31 = .ok (.aload_n 0, 1) := by decide +kernel
theorem d_Ma_putSighting_32 : decode b_Ma_putSighting 32 = .ok (.getfield 21, 3) := by decide +kernel
theorem d_Ma_putSighting_35 : decode b_Ma_putSighting 35 = .ok (.iload_n 2, 1) := by decide +kernel
theorem d_Ma_putSighting_36 : decode b_Ma_putSighting 36 = .ok (.bipush 6, 2) := by decide +kernel
theorem d_Ma_putSighting_38 : decode b_Ma_putSighting 38 = .ok (.imul, 1) := by decide +kernel
theorem d_Ma_putSighting_39 : decode b_Ma_putSighting 39 = .ok (.iload_n 1, 1) := by decide +kernel
theorem d_Ma_putSighting_40 : decode b_Ma_putSighting 40 = .ok (.iadd, 1) := by decide +kernel
theorem d_Ma_putSighting_41 : decode b_Ma_putSighting 41 = .ok (.iload 4, 2) := by decide +kernel
theorem d_Ma_putSighting_43 : decode b_Ma_putSighting 43 = .ok (.iastore, 1) := by decide +kernel
theorem d_Ma_putSighting_44 : decode b_Ma_putSighting 44 = .ok (.return_, 1) := by decide +kernel
theorem d_Ma_dropSighting_0 : decode b_Ma_dropSighting 0 = .ok (.aload_n 0, 1) := by decide +kernel
theorem d_Ma_dropSighting_1 : decode b_Ma_dropSighting 1 = .ok (.iload_n 1, 1) := by decide +kernel
theorem d_Ma_dropSighting_2 : decode b_Ma_dropSighting 2 = .ok (.iload_n 2, 1) := by decide +kernel
theorem d_Ma_dropSighting_3 : decode b_Ma_dropSighting 3 = .ok (.invokevirtual 35, 3) := by decide +kernel
theorem d_Ma_dropSighting_6 : decode b_Ma_dropSighting 6 = .ok (.ifCond .eq 13, 3) := by decide +kernel
theorem d_Ma_dropSighting_9 : decode b_Ma_dropSighting 9 = .ok (.aload_n 0, 1) := by decide +kernel
theorem d_Ma_dropSighting_10 : decode b_Ma_dropSighting 10 = .ok (.dup, 1) := by decide +kernel
theorem d_Ma_dropSighting_11 : decode b_Ma_dropSighting 11 = .ok (.getfield 28, 3) := by decide +kernel
theorem d_Ma_dropSighting_14 : decode b_Ma_dropSighting 14 = .ok (.iconst 1, 1) := by decide +kernel
theorem d_Ma_dropSighting_15 : decode b_Ma_dropSighting 15 = .ok (.isub, 1) := by decide +kernel
theorem d_Ma_dropSighting_16 : decode b_Ma_dropSighting 16 = .ok (.putfield 28, 3) := by decide +kernel
theorem d_Ma_dropSighting_19 : decode b_Ma_dropSighting 19 = .ok (.aload_n 0, 1) := by decide +kernel
theorem d_Ma_dropSighting_20 : decode b_Ma_dropSighting 20 = .ok (.getfield 18, 3) := by decide +kernel
theorem d_Ma_dropSighting_23 : decode b_Ma_dropSighting 23 = .ok (.iload_n 2, 1) := by decide +kernel
theorem d_Ma_dropSighting_24 : decode b_Ma_dropSighting 24 = .ok (.bipush 6, 2) := by decide +kernel
theorem d_Ma_dropSighting_26 : decode b_Ma_dropSighting 26 = .ok (.imul, 1) := by decide +kernel
theorem d_Ma_dropSighting_27 : decode b_Ma_dropSighting 27 = .ok (.iload_n 1, 1) := by decide +kernel
theorem d_Ma_dropSighting_28 : decode b_Ma_dropSighting 28 = .ok (.iadd, 1) := by decide +kernel
theorem d_Ma_dropSighting_29 : decode b_Ma_dropSighting 29 = .ok (.iconst 0, 1) := by decide +kernel
theorem d_Ma_dropSighting_30 : decode b_Ma_dropSighting 30 = .ok (.iastore, 1) := by decide +kernel
theorem d_Ma_dropSighting_31 : decode b_Ma_dropSighting 31 = .ok (.aload_n 0, 1) := by decide +kernel
theorem d_Ma_dropSighting_32 : decode b_Ma_dropSighting 32 = .ok (.getfield 21, 3) := by decide +kernel
theorem d_Ma_dropSighting_35 : decode b_Ma_dropSighting 35 = .ok (.iload_n 2, 1) := by decide +kernel
theorem d_Ma_dropSighting_36 : decode b_Ma_dropSighting 36 = .ok (.bipush 6, 2) := by decide +kernel
theorem d_Ma_dropSighting_38 : decode b_Ma_dropSighting 38 = .ok (.imul, 1) := by decide +kernel
theorem d_Ma_dropSighting_39 : decode b_Ma_dropSighting 39 = .ok (.iload_n 1, 1) := by decide +kernel
theorem d_Ma_dropSighting_40 : decode b_Ma_dropSighting 40 = .ok (.iadd, 1) := by decide +kernel
theorem d_Ma_dropSighting_41 : decode b_Ma_dropSighting 41 = .ok (.iconst 0, 1) := by decide +kernel
theorem d_Ma_dropSighting_42 : decode b_Ma_dropSighting 42 = .ok (.iastore, 1) := by decide +kernel
theorem d_Ma_dropSighting_43 : decode b_Ma_dropSighting 43 = .ok (.return_, 1) := by decide +kernel
