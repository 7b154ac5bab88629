theorem d_LM_isWeight_0 : decode b_LM_isWeight 0 = .ok (.iload_n 0, 1) := by decide +kernel
theorem d_LM_isWeight_1 : decode b_LM_isWeight 1 = .ok (.ifCond .lt 13, 3) := by decide +kernel
theorem d_LM_isWeight_4 : decode b_LM_isWeight 4 = .ok (.iload_n 0, 1) := by decide +kernel
theorem d_LM_isWeight_5 : decode b_LM_isWeight 5 = .ok (.bipush 8, 2) := by decide +kernel
theorem d_LM_isWeight_7 : decode b_LM_isWeight 7 = .ok (.if_icmp .gt 7, 3) := by decide +kernel
theorem d_LM_isWeight_10 : decode b_LM_isWeight 10 = .ok (.iconst 1, 1) := by decide +kernel
theorem d_LM_isWeight_11 : decode b_LM_isWeight 11 = .ok (.goto 4, 3) := by decide +kernel
theorem d_LM_isWeight_14 : decode b_LM_isWeight 14 = .ok (.iconst 0, 1) := by decide +kernel
theorem d_LM_isWeight_15 : decode b_LM_isWeight 15 = .ok (.ireturn, 1) := by decide +kernel
theorem d_LM_isRate_0 : decode b_LM_isRate 0 = .ok (.iload_n 0, 1) := by decide +kernel
theorem d_LM_isRate_1 : decode b_LM_isRate 1 = .ok (.ifCond .lt 13, 3) := by decide +kernel
theorem d_LM_isRate_4 : decode b_LM_isRate 4 = .ok (.iload_n 0, 1) := by decide +kernel
theorem d_LM_isRate_5 : decode b_LM_isRate 5 = .ok (.bipush 8, 2) := by decide +kernel
theorem d_LM_isRate_7 : decode b_LM_isRate 7 = .ok (.if_icmp .gt 7, 3) := by decide +kernel
theorem d_LM_isRate_10 : decode b_LM_isRate 10 = .ok (.iconst 1, 1) := by decide +kernel
theorem d_LM_isRate_11 : decode b_LM_isRate 11 = .ok (.goto 4, 3) := by decide +kernel
theorem d_LM_isRate_14 : decode b_LM_isRate 14 = .ok (.iconst 0, 1) := by decide +kernel
theorem d_LM_isRate_15 : decode b_LM_isRate 15 = .ok (.ireturn, 1) := by decide +kernel
theorem d_LM_isLetter_0 : decode b_LM_isLetter 0 = .ok (.iload_n 0, 1) := by decide +kernel
theorem d_LM_isLetter_1 : decode b_LM_isLetter 1 = .ok (.iconst 1, 1) := by decide +kernel
theorem d_LM_isLetter_2 : decode b_LM_isLetter 2 = .ok (.if_icmp .lt 12, 3) := by decide +kernel
theorem d_LM_isLetter_5 : decode b_LM_isLetter 5 = .ok (.iload_n 0, 1) := by decide +kernel
theorem d_LM_isLetter_6 : decode b_LM_isLetter 6 = .ok (.iconst 3, 1) := by decide +kernel
theorem d_LM_isLetter_7 : decode b_LM_isLetter 7 = .ok (.if_icmp .gt 7, 3) := by decide +kernel
theorem d_LM_isLetter_10 : decode b_LM_isLetter 10 = .ok (.iconst 1, 1) := by decide +kernel
theorem d_LM_isLetter_11 : decode b_LM_isLetter 11 = .ok (.goto 4, 3) := by decide +kernel
theorem d_LM_isLetter_14 : decode b_LM_isLetter 14 = .ok (.iconst 0, 1) := by decide +kernel
theorem d_LM_isLetter_15 : decode b_LM_isLetter 15 = .ok (.ireturn, 1) := by decide +kernel
theorem d_LM_areWeights_0 : decode b_LM_areWeights 0 = .ok (.iload_n 0, 1) := by decide +kernel
theorem d_LM_areWeights_1 : decode b_LM_areWeights 1 = .ok (.invokestatic 193, 3) := by decide +kernel
theorem d_LM_areWeights_4 : decode b_LM_areWeights 4 = .ok (.ifCond .eq 31, 3) := by decide +kernel
theorem d_LM_areWeights_7 : decode b_LM_areWeights 7 = .ok (.iload_n 1, 1) := by decide +kernel
theorem d_LM_areWeights_8 : decode b_LM_areWeights 8 = .ok (.invokestatic 193, 3) := by decide +kernel
theorem d_LM_areWeights_11 : decode b_LM_areWeights 11 = .ok (.ifCond .eq 24, 3) := by decide +kernel
theorem d_LM_areWeights_14 : decode b_LM_areWeights 14 = .ok (.iload_n 2, 1) := by decide +kernel
theorem d_LM_areWeights_15 : decode b_LM_areWeights 15 = .ok (.invokestatic 193, 3) := by decide +kernel
theorem d_LM_areWeights_18 : decode b_LM_areWeights 18 = .ok (.ifCond .eq 17, 3) := by decide +kernel
theorem d_LM_areWeights_21 : decode b_LM_areWeights 21 = .ok (.iload_n 0, 1) := by decide +kernel
theorem d_LM_areWeights_22 : decode b_LM_areWeights 22 = .ok (.iload_n 1, 1) := by decide +kernel
theorem d_LM_areWeights_23 : decode b_LM_areWeights 23 = .ok (.iadd, 1) := by decide +kernel
theorem d_LM_areWeights_24 : decode b_LM_areWeights 24 = .ok (.iload_n 2, 1) := by decide +kernel
theorem d_LM_areWeights_25 : decode b_LM_areWeights 25 = .ok (.iadd, 1) := by decide +kernel
theorem d_LM_areWeights_26 : decode b_LM_areWeights 26 = .ok (.bipush 8, 2) := by decide +kernel
theorem d_LM_areWeights_28 : decode b_LM_areWeights 28 = .ok (.if_icmp .ne 7, 3) := by decide +kernel
theorem d_LM_areWeights_31 : decode b_LM_areWeights 31 = .ok (.iconst 1, 1) := by decide +kernel
theorem d_LM_areWeights_32 : decode b_LM_areWeights 32 = .ok (.goto 4, 3) := by decide +kernel
theorem d_LM_areWeights_35 : decode b_LM_areWeights 35 = .ok (.iconst 0, 1) := by decide +kernel
theorem d_LM_areWeights_36 : decode b_LM_areWeights 36 = .ok (.ireturn, 1) := by decide +kernel
theorem d_LM_founder_0 : decode b_LM_founder 0 = .ok (.aload_n 0, 1) := by decide +kernel
theorem d_LM_founder_1 : decode b_LM_founder 1 = .ok (.getfield 12, 3) := by decide +kernel
theorem d_LM_founder_4 : decode b_LM_founder 4 = .ok (.getfield 51, 3) := by decide +kernel
theorem d_LM_founder_7 : decode b_LM_founder 7 = .ok (.iconst 3, 1) := by decide +kernel
theorem d_LM_founder_8 : decode b_LM_founder 8 = .ok (.if_icmp .eq 13, 3) := by decide +kernel
theorem d_LM_founder_11 : decode b_LM_founder 11 = .ok (.aload_n 0, 1) := by decide +kernel
theorem d_LM_founder_12 : decode b_LM_founder 12 = .ok (.getfield 19, 3) := by decide +kernel
theorem d_LM_founder_15 : decode b_LM_founder 15 = .ok (.getfield 54, 3) := by decide +kernel
theorem d_LM_founder_18 : decode b_LM_founder 18 = .ok (.ifCond .le 11, 3) := by decide +kernel
theorem d_LM_founder_21 : decode b_LM_founder 21 = .ok (.new 57, 3) := by decide +kernel
theorem d_LM_founder_24 : decode b_LM_founder 24 = .ok (.dup, 1) := by decide +kernel
theorem d_LM_founder_25 : decode b_LM_founder 25 = .ok (.invokespecial 59, 3) := by decide +kernel
theorem d_LM_founder_28 : decode b_LM_founder 28 = .ok (.athrow, 1) := by decide +kernel
theorem d_LM_founder_29 : decode b_LM_founder 29 = .ok (.aload_n 0, 1) := by decide +kernel
theorem d_LM_founder_30 : decode b_LM_founder 30 = .ok (.getfield 12, 3) := by decide +kernel
theorem d_LM_founder_33 : decode b_LM_founder 33 = .ok (.invokevirtual 60, 3) := by decide +kernel
theorem d_LM_founder_36 : decode b_LM_founder 36 = .ok (.istore_n 1, 1) := by decide +kernel
theorem d_LM_founder_37 : decode b_LM_founder 37 = .ok (.aload_n 0, 1) := by decide +kernel
theorem d_LM_founder_38 : decode b_LM_founder 38 = .ok (.getfield 28, 3) := by decide +kernel
theorem d_LM_founder_41 : decode b_LM_founder 41 = .ok (.invokevirtual 64, 3) := by decide +kernel
theorem d_LM_founder_44 : decode b_LM_founder 44 = .ok (.iload_n 1, 1) := by decide +kernel
theorem d_LM_founder_45 : decode b_LM_founder 45 = .ok (.ireturn, 1) := by decide +kernel
theorem d_LM_child_0 : decode b_LM_child 0 = .ok (.aload_n 0, 1) := by decide +kernel
theorem d_LM_child_1 : decode b_LM_child 1 = .ok (.getfield 12, 3) := by decide +kernel
theorem d_LM_child_4 : decode b_LM_child 4 = .ok (.iload_n 1, 1) := by decide +kernel
theorem d_LM_child_5 : decode b_LM_child 5 = .ok (.invokevirtual 67, 3) := by decide +kernel
theorem d_LM_child_8 : decode b_LM_child 8 = .ok (.ifCond .eq 14, 3) := by decide +kernel
theorem d_LM_child_11 : decode b_LM_child 11 = .ok (.aload_n 0, 1) := by decide +kernel
theorem d_LM_child_12 : decode b_LM_child 12 = .ok (.getfield 12, 3) := by decide +kernel
theorem d_LM_child_15 : decode b_LM_child 15 = .ok (.iload_n 2, 1) := by decide +kernel
theorem d_LM_child_16 : decode b_LM_child 16 = .ok (.invokevirtual 67, 3) := by decide +kernel
theorem d_LM_child_19 : decode b_LM_child 19 = .ok (.ifCond .ne 11, 3) := by decide +kernel
theorem d_LM_child_22 : decode b_LM_child 22 = .ok (.new 71, 3) := by decide +kernel
theorem d_LM_child_25 : decode b_LM_child 25 = .ok (.dup, 1) := by decide +kernel
theorem d_LM_child_26 : decode b_LM_child 26 = .ok (.invokespecial 73, 3) := by decide +kernel
theorem d_LM_child_29 : decode b_LM_child 29 = .ok (.athrow, 1) := by decide +kernel
theorem d_LM_child_30 : decode b_LM_child 30 = .ok (.aload_n 0, 1) := by decide +kernel
theorem d_LM_child_31 : decode b_LM_child 31 = .ok (.getfield 12, 3) := by decide +kernel
theorem d_LM_child_34 : decode b_LM_child 34 = .ok (.getfield 74, 3) := by decide +kernel
theorem d_LM_child_37 : decode b_LM_child 37 = .ok (.iconst 3, 1) := by decide +kernel
theorem d_LM_child_38 : decode b_LM_child 38 = .ok (.if_icmp .eq 13, 3) := by decide +kernel
theorem d_LM_child_41 : decode b_LM_child 41 = .ok (.aload_n 0, 1) := by decide +kernel
theorem d_LM_child_42 : decode b_LM_child 42 = .ok (.getfield 19, 3) := by decide +kernel
theorem d_LM_child_45 : decode b_LM_child 45 = .ok (.getfield 54, 3) := by decide +kernel
theorem d_LM_child_48 : decode b_LM_child 48 = .ok (.ifCond .le 11, 3) := by decide +kernel
theorem d_LM_child_51 : decode b_LM_child 51 = .ok (.new 57, 3) := by decide +kernel
theorem d_LM_child_54 : decode b_LM_child 54 = .ok (.dup, 1) := by decide +kernel
theorem d_LM_child_55 : decode b_LM_child 55 = .ok (.invokespecial 59, 3) := by decide +kernel
theorem d_LM_child_58 : decode b_LM_child 58 = .ok (.athrow, 1) := by decide +kernel
theorem d_LM_child_59 : decode b_LM_child 59 = .ok (.aload_n 0, 1) := by decide +kernel
theorem d_LM_child_60 : decode b_LM_child 60 = .ok (.getfield 12, 3) := by decide +kernel
theorem d_LM_child_63 : decode b_LM_child 63 = .ok (.iload_n 1, 1) := by decide +kernel
theorem d_LM_child_64 : decode b_LM_child 64 = .ok (.iload_n 2, 1) := by decide +kernel
theorem d_LM_child_65 : decode b_LM_child 65 = .ok (.invokevirtual 77, 3) := by decide +kernel
theorem d_LM_child_68 : decode b_LM_child 68 = .ok (.istore_n 3, 1) := by decide +kernel
theorem d_LM_child_69 : decode b_LM_child 69 = .ok (.aload_n 0, 1) := by decide +kernel
theorem d_LM_child_70 : decode b_LM_child 70 = .ok (.getfield 28, 3) := by decide +kernel
theorem d_LM_child_73 : decode b_LM_child 73 = .ok (.invokevirtual 64, 3) := by decide +kernel
theorem d_LM_child_76 : decode b_LM_child 76 = .ok (.iload_n 3, 1) := by decide +kernel
theorem d_LM_child_77 : decode b_LM_child 77 = .ok (.ireturn, 1) := by decide +kernel
theorem d_LM_marker_0 : decode b_LM_marker 0 = .ok (.iload_n 1, 1) := by decide +kernel
theorem d_LM_marker_1 : decode b_LM_marker 1 = .ok (.iload_n 2, 1) := by decide +kernel
theorem d_LM_marker_2 : decode b_LM_marker 2 = .ok (.iload_n 3, 1) := by decide +kernel
theorem d_LM_marker_3 : decode b_LM_marker 3 = .ok (.invokestatic 81, 3) := by decide +kernel
theorem d_LM_marker_6 : decode b_LM_marker 6 = .ok (.ifCond .ne 11, 3) := by decide +kernel
theorem d_LM_marker_9 : decode b_LM_marker 9 = .ok (.new 85, 3) := by decide +kernel
theorem d_LM_marker_12 : decode b_LM_marker 12 = .ok (.dup, 1) := by decide +kernel
theorem d_LM_marker_13 : decode b_LM_marker 13 = .ok (.invokespecial 87, 3) := by decide +kernel
theorem d_LM_marker_16 : decode b_LM_marker 16 = .ok (.athrow, 1) := by decide +kernel
theorem d_LM_marker_17 : decode b_LM_marker 17 = .ok (.aload_n 0, 1) := by decide +kernel
theorem d_LM_marker_18 : decode b_LM_marker 18 = .ok (.getfield 19, 3) := by decide +kernel
theorem d_LM_marker_21 : decode b_LM_marker 21 = .ok (.getfield 88, 3) := by decide +kernel
theorem d_LM_marker_24 : decode b_LM_marker 24 = .ok (.iconst 4, 1) := by decide +kernel
theorem d_LM_marker_25 : decode b_LM_marker 25 = .ok (.if_icmp .ne 11, 3) := by decide +kernel
theorem d_LM_marker_28 : decode b_LM_marker 28 = .ok (.new 57, 3) := by decide +kernel
theorem d_LM_marker_31 : decode b_LM_marker 31 = .ok (.dup, 1) := by decide +kernel
theorem d_LM_marker_32 : decode b_LM_marker 32 = .ok (.invokespecial 59, 3) := by decide +kernel
theorem d_LM_marker_35 : decode b_LM_marker 35 = .ok (.athrow, 1) := by decide +kernel
theorem d_LM_marker_36 : decode b_LM_marker 36 = .ok (.aload_n 0, 1) := by decide +kernel
theorem d_LM_marker_37 : decode b_LM_marker 37 = .ok (.getfield 19, 3) := by decide +kernel
theorem d_LM_marker_40 : decode b_LM_marker 40 = .ok (.iload_n 1, 1) := by decide +kernel
theorem d_LM_marker_41 : decode b_LM_marker 41 = .ok (.iload_n 2, 1) := by decide +kernel
theorem d_LM_marker_42 : decode b_LM_marker 42 = .ok (.iload_n 3, 1) := by decide +kernel
theorem d_LM_marker_43 : decode b_LM_marker 43 = .ok (.invokevirtual 91, 3) := by decide +kernel
theorem d_LM_marker_46 : decode b_LM_marker 46 = .ok (.istore 4, 2) := by decide +kernel
theorem d_LM_marker_48 : decode b_LM_marker 48 = .ok (.aload_n 0, 1) := by decide +kernel
theorem d_LM_marker_49 : decode b_LM_marker 49 = .ok (.getfield 28, 3) := by decide +kernel
theorem d_LM_marker_52 : decode b_LM_marker 52 = .ok (.iload 4, 2) := by decide +kernel
theorem d_LM_marker_54 : decode b_LM_marker 54 = .ok (.invokevirtual 95, 3) := by decide +kernel
theorem d_LM_marker_57 : decode b_LM_marker 57 = .ok (.iload 4, 2) := by decide +kernel
theorem d_LM_marker_59 : decode b_LM_marker 59 = .ok (.ireturn, 1) := by decide +kernel
theorem d_LM_rate_0 : decode b_LM_rate 0 = .ok (.aload_n 0, 1) := by decide +kernel
theorem d_LM_rate_1 : decode b_LM_rate 1 = .ok (.getfield 19, 3) := by decide +kernel
theorem d_LM_rate_4 : decode b_LM_rate 4 = .ok (.iload_n 1, 1) := by decide +kernel
theorem d_LM_rate_5 : decode b_LM_rate 5 = .ok (.invokevirtual 99, 3) := by decide +kernel
theorem d_LM_rate_8 : decode b_LM_rate 8 = .ok (.ifCond .ne 11, 3) := by decide +kernel
theorem d_LM_rate_11 : decode b_LM_rate 11 = .ok (.new 71, 3) := by decide +kernel
theorem d_LM_rate_14 : decode b_LM_rate 14 = .ok (.dup, 1) := by decide +kernel
theorem d_LM_rate_15 : decode b_LM_rate 15 = .ok (.invokespecial 73, 3) := by decide +kernel
theorem d_LM_rate_18 : decode b_LM_rate 18 = .ok (.athrow, 1) := by decide +kernel
theorem d_LM_rate_19 : decode b_LM_rate 19 = .ok (.iload_n 2, 1) := by decide +kernel
theorem d_LM_rate_20 : decode b_LM_rate 20 = .ok (.invokestatic 102, 3) := by decide +kernel
theorem d_LM_rate_23 : decode b_LM_rate 23 = .ok (.ifCond .ne 11, 3) := by decide +kernel
theorem d_LM_rate_26 : decode b_LM_rate 26 = .ok (.new 85, 3) := by decide +kernel
theorem d_LM_rate_29 : decode b_LM_rate 29 = .ok (.dup, 1) := by decide +kernel
theorem d_LM_rate_30 : decode b_LM_rate 30 = .ok (.invokespecial 87, 3) := by decide +kernel
theorem d_LM_rate_33 : decode b_LM_rate 33 = .ok (.athrow, 1) := by decide +kernel
theorem d_LM_rate_34 : decode b_LM_rate 34 = .ok (.aload_n 0, 1) := by decide +kernel
theorem d_LM_rate_35 : decode b_LM_rate 35 = .ok (.getfield 19, 3) := by decide +kernel
theorem d_LM_rate_38 : decode b_LM_rate 38 = .ok (.getfield 105, 3) := by decide +kernel
theorem d_LM_rate_41 : decode b_LM_rate 41 = .ok (.iload_n 1, 1) := by decide +kernel
theorem d_LM_rate_42 : decode b_LM_rate 42 = .ok (.iaload, 1) := by decide +kernel
theorem d_LM_rate_43 : decode b_LM_rate 43 = .ok (.istore_n 3, 1) := by decide +kernel
theorem d_LM_rate_44 : decode b_LM_rate 44 = .ok (.aload_n 0, 1) := by decide +kernel
theorem d_LM_rate_45 : decode b_LM_rate 45 = .ok (.getfield 19, 3) := by decide +kernel
theorem d_LM_rate_48 : decode b_LM_rate 48 = .ok (.getfield 105, 3) := by decide +kernel
theorem d_LM_rate_51 : decode b_LM_rate 51 = .ok (.iload_n 1, 1) := by decide +kernel
theorem d_LM_rate_52 : decode b_LM_rate 52 = .ok (.iload_n 2, 1) := by decide +kernel
theorem d_LM_rate_53 : decode b_LM_rate 53 = .ok (.iastore, 1) := by decide +kernel
theorem d_LM_rate_54 : decode b_LM_rate 54 = .ok (.iload_n 3, 1) := by decide +kernel
theorem d_LM_rate_55 : decode b_LM_rate 55 = .ok (.ireturn, 1) := by decide +kernel
theorem d_LM_see_0 : decode b_LM_see 0 = .ok (.aload_n 0, 1) := by decide +kernel
theorem d_LM_see_1 : decode b_LM_see 1 = .ok (.getfield 12, 3) := by decide +kernel
theorem d_LM_see_4 : decode b_LM_see 4 = .ok (.iload_n 1, 1) := by decide +kernel
theorem d_LM_see_5 : decode b_LM_see 5 = .ok (.invokevirtual 67, 3) := by decide +kernel
theorem d_LM_see_8 : decode b_LM_see 8 = .ok (.ifCond .eq 14, 3) := by decide +kernel
theorem d_LM_see_11 : decode b_LM_see 11 = .ok (.aload_n 0, 1) := by decide +kernel
theorem d_LM_see_12 : decode b_LM_see 12 = .ok (.getfield 19, 3) := by decide +kernel
theorem d_LM_see_15 : decode b_LM_see 15 = .ok (.iload_n 2, 1) := by decide +kernel
theorem d_LM_see_16 : decode b_LM_see 16 = .ok (.invokevirtual 109, 3) := by decide +kernel
theorem d_LM_see_19 : decode b_LM_see 19 = .ok (.ifCond .ne 11, 3) := by decide +kernel
theorem d_LM_see_22 : decode b_LM_see 22 = .ok (.new 71, 3) := by decide +kernel
theorem d_LM_see_25 : decode b_LM_see 25 = .ok (.dup, 1) := by decide +kernel
theorem d_LM_see_26 : decode b_LM_see 26 = .ok (.invokespecial 73, 3) := by decide +kernel
theorem d_LM_see_29 : decode b_LM_see 29 = .ok (.athrow, 1) := by decide +kernel
theorem d_LM_see_30 : decode b_LM_see 30 = .ok (.iload_n 3, 1) := by decide +kernel
theorem d_LM_see_31 : decode b_LM_see 31 = .ok (.invokestatic 112, 3) := by decide +kernel
theorem d_LM_see_34 : decode b_LM_see 34 = .ok (.ifCond .eq 11, 3) := by decide +kernel
theorem d_LM_see_37 : decode b_LM_see 37 = .ok (.iload 4, 2) := by decide +kernel
theorem d_LM_see_39 : decode b_LM_see 39 = .ok (.invokestatic 112, 3) := by decide +kernel
theorem d_LM_see_42 : decode b_LM_see 42 = .ok (.ifCond .ne 11, 3) := by decide +kernel
theorem d_LM_see_45 : decode b_LM_see 45 = .ok (.new 85, 3) := by decide +kernel
theorem d_LM_see_48 : decode b_LM_see 48 = .ok (.dup, 1) := by decide +kernel
theorem d_LM_see_49 : decode b_LM_see 49 = .ok (.invokespecial 87, 3) := by decide +kernel
theorem d_LM_see_52 : decode b_LM_see 52 = .ok (.athrow, 1) := by decide +kernel
theorem d_LM_see_53 : decode b_LM_see 53 = .ok (.aload_n 0, 1) := by decide +kernel
theorem d_LM_see_54 : decode b_LM_see 54 = .ok (.getfield 19, 3) := by decide +kernel
theorem d_LM_see_57 : decode b_LM_see 57 = .ok (.iload_n 1, 1) := by decide +kernel
theorem d_LM_see_58 : decode b_LM_see 58 = .ok (.iload_n 2, 1) := by decide +kernel
theorem d_LM_see_59 : decode b_LM_see 59 = .ok (.iload_n 3, 1) := by decide +kernel
theorem d_LM_see_60 : decode b_LM_see 60 = .ok (.iload 4, 2) := by decide +kernel
theorem d_LM_see_62 : decode b_LM_see 62 = .ok (.invokevirtual 115, 3) := by decide +kernel
theorem d_LM_see_65 : decode b_LM_see 65 = .ok (.aload_n 0, 1) := by decide +kernel
theorem d_LM_see_66 : decode b_LM_see 66 = .ok (.getfield 28, 3) := by decide +kernel
theorem d_LM_see_69 : decode b_LM_see 69 = .ok (.iload_n 2, 1) := by decide +kernel
theorem d_LM_see_70 : decode b_LM_see 70 = .ok (.invokevirtual 95, 3) := by decide +kernel
theorem d_LM_see_73 : decode b_LM_see 73 = .ok (.return_, 1) := by decide +kernel
theorem d_LM_unsee_0 : decode b_LM_unsee 0 = .ok (.aload_n 0, 1) := by decide +kernel
theorem d_LM_unsee_1 : decode b_LM_unsee 1 = .ok (.getfield 12, 3) := by decide +kernel
theorem d_LM_unsee_4 : decode b_LM_unsee 4 = .ok (.iload_n 1, 1) := by decide +kernel
theorem d_LM_unsee_5 : decode b_LM_unsee 5 = .ok (.invokevirtual 67, 3) := by decide +kernel
theorem d_LM_unsee_8 : decode b_LM_unsee 8 = .ok (.ifCond .eq 14, 3) := by decide +kernel
theorem d_LM_unsee_11 : decode b_LM_unsee 11 = .ok (.aload_n 0, 1) := by decide +kernel
theorem d_LM_unsee_12 : decode b_LM_unsee 12 = .ok (.getfield 19, 3) := by decide +kernel
theorem d_LM_unsee_15 : decode b_LM_unsee 15 = .ok (.iload_n 2, 1) := by decide +kernel
theorem d_LM_unsee_16 : decode b_LM_unsee 16 = .ok (.invokevirtual 109, 3) := by decide +kernel
theorem d_LM_unsee_19 : decode b_LM_unsee 19 = .ok (.ifCond .ne 11, 3) := by decide +kernel
theorem d_LM_unsee_22 : decode b_LM_unsee 22 = .ok (.new 71, 3) := by decide +kernel
theorem d_LM_unsee_25 : decode b_LM_unsee 25 = .ok (.dup, 1) := by decide +kernel
theorem d_LM_unsee_26 : decode b_LM_unsee 26 = .ok (.invokespecial 73, 3) := by decide +kernel
theorem d_LM_unsee_29 : decode b_LM_unsee 29 = .ok (.athrow, 1) := by decide +kernel
theorem d_LM_unsee_30 : decode b_LM_unsee 30 = .ok (.aload_n 0, 1) := by decide +kernel
theorem d_LM_unsee_31 : decode b_LM_unsee 31 = .ok (.getfield 19, 3) := by decide +kernel
theorem d_LM_unsee_34 : decode b_LM_unsee 34 = .ok (.iload_n 1, 1) := by decide +kernel
theorem d_LM_unsee_35 : decode b_LM_unsee 35 = .ok (.iload_n 2, 1) := by decide +kernel
theorem d_LM_unsee_36 : decode b_LM_unsee 36 = .ok (.invokevirtual 119, 3) := by decide +kernel
theorem d_LM_unsee_39 : decode b_LM_unsee 39 = .ok (.ifCond .ne 5, 3) := by decide +kernel
theorem d_LM_unsee_42 : decode b_LM_unsee 42 = .ok (.iconst 0, 1) := by decide +kernel
theorem d_LM_unsee_43 : decode b_LM_unsee 43 = .ok (.ireturn, 1) := by decide +kernel
theorem d_LM_unsee_44 : decode b_LM_unsee 44 = .ok (.aload_n 0, 1) := by decide +kernel
theorem d_LM_unsee_45 : decode b_LM_unsee 45 = .ok (.getfield 19, 3) := by decide +kernel
theorem d_LM_unsee_48 : decode b_LM_unsee 48 = .ok (.iload_n 1, 1) := by decide +kernel
theorem d_LM_unsee_49 : decode b_LM_unsee 49 = .ok (.iload_n 2, 1) := by decide +kernel
theorem d_LM_unsee_50 : decode b_LM_unsee 50 = .ok (.invokevirtual 123, 3) := by decide +kernel
theorem d_LM_unsee_53 : decode b_LM_unsee 53 = .ok (.aload_n 0, 1) := by decide +kernel
theorem d_LM_unsee_54 : decode b_LM_unsee 54 = .ok (.getfield 28, 3) := by decide +kernel
theorem d_LM_unsee_57 : decode b_LM_unsee 57 = .ok (.iload_n 2, 1) := by decide +kernel
theorem d_LM_unsee_58 : decode b_LM_unsee 58 = .ok (.invokevirtual 95, 3) := by decide +kernel
theorem d_LM_unsee_61 : decode b_LM_unsee 61 = .ok (.iconst 1, 1) := by decide +kernel
theorem d_LM_unsee_62 : decode b_LM_unsee 62 = .ok (.ireturn, 1) := by decide +kernel
theorem d_LM_exponent_0 : decode b_LM_exponent 0 = .ok (.iconst 2, 1) := by decide +kernel
theorem d_LM_exponent_1 : decode b_LM_exponent 1 = .ok (.aload_n 0, 1) := by decide +kernel
theorem d_LM_exponent_2 : decode b_LM_exponent 2 = .ok (.getfield 12, 3) := by decide +kernel
theorem d_LM_exponent_5 : decode b_LM_exponent 5 = .ok (.getfield 74, 3) := by decide +kernel
theorem d_LM_exponent_8 : decode b_LM_exponent 8 = .ok (.imul, 1) := by decide +kernel
theorem d_LM_exponent_9 : decode b_LM_exponent 9 = .ok (.bipush 6, 2) := by decide +kernel
theorem d_LM_exponent_11 : decode b_LM_exponent 11 = .ok (.aload_n 0, 1) := by decide +kernel
theorem d_LM_exponent_12 : decode b_LM_exponent 12 = .ok (.getfield 12, 3) := by decide +kernel
theorem d_LM_exponent_15 : decode b_LM_exponent 15 = .ok (.getfield 51, 3) := by decide +kernel
theorem d_LM_exponent_18 : decode b_LM_exponent 18 = .ok (.imul, 1) := by decide +kernel
theorem d_LM_exponent_19 : decode b_LM_exponent 19 = .ok (.aload_n 0, 1) := by decide +kernel
theorem d_LM_exponent_20 : decode b_LM_exponent 20 = .ok (.getfield 19, 3) := by decide +kernel
theorem d_LM_exponent_23 : decode b_LM_exponent 23 = .ok (.getfield 88, 3) := by decide +kernel
theorem d_LM_exponent_26 : decode b_LM_exponent 26 = .ok (.imul, 1) := by decide +kernel
theorem d_LM_exponent_27 : decode b_LM_exponent 27 = .ok (.iadd, 1) := by decide +kernel
theorem d_LM_exponent_28 : decode b_LM_exponent 28 = .ok (.bipush 8, 2) := by decide +kernel
theorem d_LM_exponent_30 : decode b_LM_exponent 30 = .ok (.aload_n 0, 1) := by decide +kernel
theorem d_LM_exponent_31 : decode b_LM_exponent 31 = .ok (.getfield 12, 3) := by decide +kernel
theorem d_LM_exponent_34 : decode b_LM_exponent 34 = .ok (.getfield 74, 3) := by decide +kernel
theorem d_LM_exponent_37 : decode b_LM_exponent 37 = .ok (.imul, 1) := by decide +kernel
theorem d_LM_exponent_38 : decode b_LM_exponent 38 = .ok (.aload_n 0, 1) := by decide +kernel
theorem d_LM_exponent_39 : decode b_LM_exponent 39 = .ok (.getfield 19, 3) := by decide +kernel
theorem d_LM_exponent_42 : decode b_LM_exponent 42 = .ok (.invokevirtual 190, 3) := by decide +kernel
theorem d_LM_exponent_45 : decode b_LM_exponent 45 = .ok (.imul, 1) := by decide +kernel
theorem d_LM_exponent_46 : decode b_LM_exponent 46 = .ok (.iadd, 1) := by decide +kernel
theorem d_LM_exponent_47 : decode b_LM_exponent 47 = .ok (.ireturn, 1) := by decide +kernel
theorem d_LM_count_0 : decode b_LM_count 0 = .ok (.iload_n 1, 1) := by decide +kernel
theorem d_LM_count_1 : decode b_LM_count 1 = .ok (.tableswitch 84 0 5 #[39, 47, 55, 63, 71, 79], 39) := by decide +kernel
theorem d_LM_count_40 : decode b_LM_count 40 = .ok (.aload_n 0, 1) := by decide +kernel
theorem d_LM_count_41 : decode b_LM_count 41 = .ok (.getfield 12, 3) := by decide +kernel
theorem d_LM_count_44 : decode b_LM_count 44 = .ok (.invokevirtual 127, 3) := by decide +kernel
theorem d_LM_count_47 : decode b_LM_count 47 = .ok (.ireturn, 1) := by decide +kernel
theorem d_LM_count_48 : decode b_LM_count 48 = .ok (.aload_n 0, 1) := by decide +kernel
theorem d_LM_count_49 : decode b_LM_count 49 = .ok (.getfield 12, 3) := by decide +kernel
theorem d_LM_count_52 : decode b_LM_count 52 = .ok (.getfield 51, 3) := by decide +kernel
theorem d_LM_count_55 : decode b_LM_count 55 = .ok (.ireturn, 1) := by decide +kernel
theorem d_LM_count_56 : decode b_LM_count 56 = .ok (.aload_n 0, 1) := by decide +kernel
theorem d_LM_count_57 : decode b_LM_count 57 = .ok (.getfield 12, 3) := by decide +kernel
theorem d_LM_count_60 : decode b_LM_count 60 = .ok (.getfield 74, 3) := by decide +kernel
theorem d_LM_count_63 : decode b_LM_count 63 = .ok (.ireturn, 1) := by decide +kernel
theorem d_LM_count_64 : decode b_LM_count 64 = .ok (.aload_n 0, 1) := by decide +kernel
theorem d_LM_count_65 : decode b_LM_count 65 = .ok (.getfield 19, 3) := by decide +kernel
theorem d_LM_count_68 : decode b_LM_count 68 = .ok (.getfield 88, 3) := by decide +kernel
theorem d_LM_count_71 : decode b_LM_count 71 = .ok (.ireturn, 1) := by decide +kernel
theorem d_LM_count_72 : decode b_LM_count 72 = .ok (.aload_n 0, 1) := by decide +kernel
theorem d_LM_count_73 : decode b_LM_count 73 = .ok (.getfield 12, 3) := by decide +kernel
theorem d_LM_count_76 : decode b_LM_count 76 = .ok (.invokevirtual 130, 3) := by decide +kernel
theorem d_LM_count_79 : decode b_LM_count 79 = .ok (.ireturn, 1) := by decide +kernel
theorem d_LM_count_80 : decode b_LM_count 80 = .ok (.aload_n 0, 1) := by decide +kernel
theorem d_LM_count_81 : decode b_LM_count 81 = .ok (.invokevirtual 133, 3) := by decide +kernel
theorem d_LM_count_84 : decode b_LM_count 84 = .ok (.ireturn, 1) := by decide +kernel
theorem d_LM_count_85 : decode b_LM_count 85 = .ok (.iconst (-1), 1) := by decide +kernel
theorem d_LM_count_86 : decode b_LM_count 86 = .ok (.ireturn, 1) := by decide +kernel
theorem d_LM_origin_0 : decode b_LM_origin 0 = .ok (.aload_n 0, 1) := by decide +kernel
theorem d_LM_origin_1 : decode b_LM_origin 1 = .ok (.getfield 12, 3) := by decide +kernel
theorem d_LM_origin_4 : decode b_LM_origin 4 = .ok (.iload_n 1, 1) := by decide +kernel
theorem d_LM_origin_5 : decode b_LM_origin 5 = .ok (.invokevirtual 67, 3) := by decide +kernel
theorem d_LM_origin_8 : decode b_LM_origin 8 = .ok (.ifCond .eq 23, 3) := by decide +kernel
theorem d_LM_origin_11 : decode b_LM_origin 11 = .ok (.iload_n 2, 1) := by decide +kernel
theorem d_LM_origin_12 : decode b_LM_origin 12 = .ok (.ifCond .lt 19, 3) := by decide +kernel
theorem d_LM_origin_15 : decode b_LM_origin 15 = .ok (.iload_n 2, 1) := by decide +kernel
theorem d_LM_origin_16 : decode b_LM_origin 16 = .ok (.iconst 1, 1) := by decide +kernel
theorem d_LM_origin_17 : decode b_LM_origin 17 = .ok (.if_icmp .gt 14, 3) := by decide +kernel
theorem d_LM_origin_20 : decode b_LM_origin 20 = .ok (.aload_n 0, 1) := by decide +kernel
theorem d_LM_origin_21 : decode b_LM_origin 21 = .ok (.getfield 12, 3) := by decide +kernel
theorem d_LM_origin_24 : decode b_LM_origin 24 = .ok (.iload_n 3, 1) := by decide +kernel
theorem d_LM_origin_25 : decode b_LM_origin 25 = .ok (.invokevirtual 136, 3) := by decide +kernel
theorem d_LM_origin_28 : decode b_LM_origin 28 = .ok (.ifCond .ne 11, 3) := by decide +kernel
theorem d_LM_origin_31 : decode b_LM_origin 31 = .ok (.new 71, 3) := by decide +kernel
theorem d_LM_origin_34 : decode b_LM_origin 34 = .ok (.dup, 1) := by decide +kernel
theorem d_LM_origin_35 : decode b_LM_origin 35 = .ok (.invokespecial 73, 3) := by decide +kernel
theorem d_LM_origin_38 : decode b_LM_origin 38 = .ok (.athrow, 1) := by decide +kernel
theorem d_LM_origin_39 : decode b_LM_origin 39 = .ok (.aload_n 0, 1) := by decide +kernel
theorem d_LM_origin_40 : decode b_LM_origin 40 = .ok (.getfield 12, 3) := by decide +kernel
theorem d_LM_origin_43 : decode b_LM_origin 43 = .ok (.iload_n 1, 1) := by decide +kernel
theorem d_LM_origin_44 : decode b_LM_origin 44 = .ok (.iload_n 2, 1) := by decide +kernel
theorem d_LM_origin_45 : decode b_LM_origin 45 = .ok (.iload_n 3, 1) := by decide +kernel
theorem d_LM_origin_46 : decode b_LM_origin 46 = .ok (.invokevirtual 139, 3) := by decide +kernel
theorem d_LM_origin_49 : decode b_LM_origin 49 = .ok (.ireturn, 1) := by decide +kernel
theorem d_LM_fit_0 : decode b_LM_fit 0 = .ok (.aload_n 0, 1) := by decide +kernel
theorem d_LM_fit_1 : decode b_LM_fit 1 = .ok (.getfield 19, 3) := by decide +kernel
theorem d_LM_fit_4 : decode b_LM_fit 4 = .ok (.iload_n 1, 1) := by decide +kernel
theorem d_LM_fit_5 : decode b_LM_fit 5 = .ok (.invokevirtual 109, 3) := by decide +kernel
theorem d_LM_fit_8 : decode b_LM_fit 8 = .ok (.ifCond .eq 14, 3) := by decide +kernel
theorem d_LM_fit_11 : decode b_LM_fit 11 = .ok (.aload_n 0, 1) := by decide +kernel
theorem d_LM_fit_12 : decode b_LM_fit 12 = .ok (.getfield 12, 3) := by decide +kernel
theorem d_LM_fit_15 : decode b_LM_fit 15 = .ok (.iload_n 2, 1) := by decide +kernel
theorem d_LM_fit_16 : decode b_LM_fit 16 = .ok (.invokevirtual 136, 3) := by decide +kernel
theorem d_LM_fit_19 : decode b_LM_fit 19 = .ok (.ifCond .ne 11, 3) := by decide +kernel
theorem d_LM_fit_22 : decode b_LM_fit 22 = .ok (.new 71, 3) := by decide +kernel
theorem d_LM_fit_25 : decode b_LM_fit 25 = .ok (.dup, 1) := by decide +kernel
theorem d_LM_fit_26 : decode b_LM_fit 26 = .ok (.invokespecial 73, 3) := by decide +kernel
theorem d_LM_fit_29 : decode b_LM_fit 29 = .ok (.athrow, 1) := by decide +kernel
theorem d_LM_fit_30 : decode b_LM_fit 30 = .ok (.aload_n 0, 1) := by decide +kernel
theorem d_LM_fit_31 : decode b_LM_fit 31 = .ok (.getfield 28, 3) := by decide +kernel
theorem d_LM_fit_34 : decode b_LM_fit 34 = .ok (.iload_n 1, 1) := by decide +kernel
theorem d_LM_fit_35 : decode b_LM_fit 35 = .ok (.iload_n 2, 1) := by decide +kernel
theorem d_LM_fit_36 : decode b_LM_fit 36 = .ok (.invokevirtual 142, 3) := by decide +kernel
theorem d_LM_fit_39 : decode b_LM_fit 39 = .ok (.ireturn, 1) := by decide +kernel
theorem d_LM_length_0 : decode b_LM_length 0 = .ok (.aload_n 0, 1) := by decide +kernel
theorem d_LM_length_1 : decode b_LM_length 1 = .ok (.getfield 47, 3) := by decide +kernel
theorem d_LM_length_4 : decode b_LM_length 4 = .ok (.ireturn, 1) := by decide +kernel
theorem d_LM_charAt_0 : decode b_LM_charAt 0 = .ok (.iload_n 1, 1) := by decide +kernel
theorem d_LM_charAt_1 : decode b_LM_charAt 1 = .ok (.ifCond .lt 20, 3) := by decide +kernel
theorem d_LM_charAt_4 : decode b_LM_charAt 4 = .ok (.iload_n 1, 1) := by decide +kernel
theorem d_LM_charAt_5 : decode b_LM_charAt 5 = .ok (.aload_n 0, 1) := by decide +kernel
theorem d_LM_charAt_6 : decode b_LM_charAt 6 = .ok (.getfield 47, 3) := by decide +kernel
theorem d_LM_charAt_9 : decode b_LM_charAt 9 = .ok (.if_icmp .ge 12, 3) := by decide +kernel
theorem d_LM_charAt_12 : decode b_LM_charAt 12 = .ok (.aload_n 0, 1) := by decide +kernel
theorem d_LM_charAt_13 : decode b_LM_charAt 13 = .ok (.getfield 43, 3) := by decide +kernel
theorem d_LM_charAt_16 : decode b_LM_charAt 16 = .ok (.iload_n 1, 1) := by decide +kernel
theorem d_LM_charAt_17 : decode b_LM_charAt 17 = .ok (.caload, 1) := by decide +kernel
theorem d_LM_charAt_18 : decode b_LM_charAt 18 = .ok (.goto 5, 3) := by decide +kernel
theorem d_LM_charAt_21 : decode b_LM_charAt 21 = .ok (.bipush 32, 2) := by decide +kernel
theorem d_LM_charAt_23 : decode b_LM_charAt 23 = .ok (.ireturn, 1) := by decide +kernel
