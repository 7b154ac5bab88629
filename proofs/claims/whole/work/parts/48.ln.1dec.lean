theorem d_LM_odds_0 : decode b_LM_odds 0 = .ok (.iload_n 1, 1) := by decide +kernel
theorem d_LM_odds_1 : decode b_LM_odds 1 = .ok (.iconst 1, 1) := by decide +kernel
theorem d_LM_odds_2 : decode b_LM_odds 2 = .ok (.if_icmp .lt 10, 3) := by decide +kernel
theorem d_LM_odds_5 : decode b_LM_odds 5 = .ok (.iload_n 1, 1) := by decide +kernel
theorem d_LM_odds_6 : decode b_LM_odds 6 = .ok (.sipush 1000, 3) := by decide +kernel
theorem d_LM_odds_9 : decode b_LM_odds 9 = .ok (.if_icmp .le 11, 3) := by decide +kernel
theorem d_LM_odds_12 : decode b_LM_odds 12 = .ok (.new 85, 3) := by decide +kernel
theorem d_LM_odds_15 : decode b_LM_odds 15 = .ok (.dup, 1) := by decide +kernel
theorem d_LM_odds_16 : decode b_LM_odds 16 = .ok (.invokespecial 87, 3) := by decide +kernel
theorem d_LM_odds_19 : decode b_LM_odds 19 = .ok (.athrow, 1) := by decide +kernel
theorem d_LM_odds_20 : decode b_LM_odds 20 = .ok (.aload_n 0, 1) := by decide +kernel
theorem d_LM_odds_21 : decode b_LM_odds 21 = .ok (.getfield 19, 3) := by decide +kernel
theorem d_LM_odds_24 : decode b_LM_odds 24 = .ok (.getfield 88, 3) := by decide +kernel
theorem d_LM_odds_27 : decode b_LM_odds 27 = .ok (.ifCond .ne 11, 3) := by decide +kernel
theorem d_LM_odds_30 : decode b_LM_odds 30 = .ok (.new 57, 3) := by decide +kernel
theorem d_LM_odds_33 : decode b_LM_odds 33 = .ok (.dup, 1) := by decide +kernel
theorem d_LM_odds_34 : decode b_LM_odds 34 = .ok (.invokespecial 59, 3) := by decide +kernel
theorem d_LM_odds_37 : decode b_LM_odds 37 = .ok (.athrow, 1) := by decide +kernel
theorem d_LM_odds_38 : decode b_LM_odds 38 = .ok (.aload_n 0, 1) := by decide +kernel
theorem d_LM_odds_39 : decode b_LM_odds 39 = .ok (.getfield 37, 3) := by decide +kernel
theorem d_LM_odds_42 : decode b_LM_odds 42 = .ok (.invokevirtual 145, 3) := by decide +kernel
theorem d_LM_odds_45 : decode b_LM_odds 45 = .ok (.aload_n 0, 1) := by decide +kernel
theorem d_LM_odds_46 : decode b_LM_odds 46 = .ok (.getfield 37, 3) := by decide +kernel
theorem d_LM_odds_49 : decode b_LM_odds 49 = .ok (.iconst 0, 1) := by decide +kernel
theorem d_LM_odds_50 : decode b_LM_odds 50 = .ok (.invokevirtual 148, 3) := by decide +kernel
theorem d_LM_odds_53 : decode b_LM_odds 53 = .ok (.aload_n 0, 1) := by decide +kernel
theorem d_LM_odds_54 : decode b_LM_odds 54 = .ok (.getfield 37, 3) := by decide +kernel
theorem d_LM_odds_57 : decode b_LM_odds 57 = .ok (.invokevirtual 159, 3) := by decide +kernel
theorem d_LM_odds_60 : decode b_LM_odds 60 = .ok (.aload_n 0, 1) := by decide +kernel
theorem d_LM_odds_61 : decode b_LM_odds 61 = .ok (.getfield 37, 3) := by decide +kernel
theorem d_LM_odds_64 : decode b_LM_odds 64 = .ok (.iconst 1, 1) := by decide +kernel
theorem d_LM_odds_65 : decode b_LM_odds 65 = .ok (.invokevirtual 148, 3) := by decide +kernel
theorem d_LM_odds_68 : decode b_LM_odds 68 = .ok (.aload_n 0, 1) := by decide +kernel
theorem d_LM_odds_69 : decode b_LM_odds 69 = .ok (.getfield 37, 3) := by decide +kernel
theorem d_LM_odds_72 : decode b_LM_odds 72 = .ok (.iconst 0, 1) := by decide +kernel
theorem d_LM_odds_73 : decode b_LM_odds 73 = .ok (.iload_n 1, 1) := by decide +kernel
theorem d_LM_odds_74 : decode b_LM_odds 74 = .ok (.iconst 1, 1) := by decide +kernel
theorem d_LM_odds_75 : decode b_LM_odds 75 = .ok (.invokevirtual 162, 3) := by decide +kernel
theorem d_LM_odds_78 : decode b_LM_odds 78 = .ok (.ireturn, 1) := by decide +kernel
theorem d_LM_would_0 : decode b_LM_would 0 = .ok (.aload_n 0, 1) := by decide +kernel
theorem d_LM_would_1 : decode b_LM_would 1 = .ok (.getfield 19, 3) := by decide +kernel
theorem d_LM_would_4 : decode b_LM_would 4 = .ok (.iload_n 1, 1) := by decide +kernel
theorem d_LM_would_5 : decode b_LM_would 5 = .ok (.invokevirtual 99, 3) := by decide +kernel
theorem d_LM_would_8 : decode b_LM_would 8 = .ok (.ifCond .ne 11, 3) := by decide +kernel
theorem d_LM_would_11 : decode b_LM_would 11 = .ok (.new 71, 3) := by decide +kernel
theorem d_LM_would_14 : decode b_LM_would 14 = .ok (.dup, 1) := by decide +kernel
theorem d_LM_would_15 : decode b_LM_would 15 = .ok (.invokespecial 73, 3) := by decide +kernel
theorem d_LM_would_18 : decode b_LM_would 18 = .ok (.athrow, 1) := by decide +kernel
theorem d_LM_would_19 : decode b_LM_would 19 = .ok (.iload_n 2, 1) := by decide +kernel
theorem d_LM_would_20 : decode b_LM_would 20 = .ok (.invokestatic 102, 3) := by decide +kernel
theorem d_LM_would_23 : decode b_LM_would 23 = .ok (.ifCond .ne 11, 3) := by decide +kernel
theorem d_LM_would_26 : decode b_LM_would 26 = .ok (.new 85, 3) := by decide +kernel
theorem d_LM_would_29 : decode b_LM_would 29 = .ok (.dup, 1) := by decide +kernel
theorem d_LM_would_30 : decode b_LM_would 30 = .ok (.invokespecial 87, 3) := by decide +kernel
theorem d_LM_would_33 : decode b_LM_would 33 = .ok (.athrow, 1) := by decide +kernel
theorem d_LM_would_34 : decode b_LM_would 34 = .ok (.aload_n 0, 1) := by decide +kernel
theorem d_LM_would_35 : decode b_LM_would 35 = .ok (.getfield 37, 3) := by decide +kernel
theorem d_LM_would_38 : decode b_LM_would 38 = .ok (.invokevirtual 145, 3) := by decide +kernel
theorem d_LM_would_41 : decode b_LM_would 41 = .ok (.aload_n 0, 1) := by decide +kernel
theorem d_LM_would_42 : decode b_LM_would 42 = .ok (.getfield 37, 3) := by decide +kernel
theorem d_LM_would_45 : decode b_LM_would 45 = .ok (.iconst 0, 1) := by decide +kernel
theorem d_LM_would_46 : decode b_LM_would 46 = .ok (.invokevirtual 148, 3) := by decide +kernel
theorem d_LM_would_49 : decode b_LM_would 49 = .ok (.aload_n 0, 1) := by decide +kernel
theorem d_LM_would_50 : decode b_LM_would 50 = .ok (.getfield 37, 3) := by decide +kernel
theorem d_LM_would_53 : decode b_LM_would 53 = .ok (.iload_n 1, 1) := by decide +kernel
theorem d_LM_would_54 : decode b_LM_would 54 = .ok (.iload_n 2, 1) := by decide +kernel
theorem d_LM_would_55 : decode b_LM_would 55 = .ok (.invokevirtual 165, 3) := by decide +kernel
theorem d_LM_would_58 : decode b_LM_would 58 = .ok (.aload_n 0, 1) := by decide +kernel
theorem d_LM_would_59 : decode b_LM_would 59 = .ok (.getfield 37, 3) := by decide +kernel
theorem d_LM_would_62 : decode b_LM_would 62 = .ok (.iconst 1, 1) := by decide +kernel
theorem d_LM_would_63 : decode b_LM_would 63 = .ok (.invokevirtual 148, 3) := by decide +kernel
theorem d_LM_would_66 : decode b_LM_would 66 = .ok (.aload_n 0, 1) := by decide +kernel
theorem d_LM_would_67 : decode b_LM_would 67 = .ok (.getfield 37, 3) := by decide +kernel
theorem d_LM_would_70 : decode b_LM_would 70 = .ok (.getfield 151, 3) := by decide +kernel
theorem d_LM_would_73 : decode b_LM_would 73 = .ok (.iconst 1, 1) := by decide +kernel
theorem d_LM_would_74 : decode b_LM_would 74 = .ok (.iconst 0, 1) := by decide +kernel
theorem d_LM_would_75 : decode b_LM_would 75 = .ok (.invokevirtual 168, 3) := by decide +kernel
theorem d_LM_would_78 : decode b_LM_would 78 = .ok (.ireturn, 1) := by decide +kernel
theorem d_LM_best_0 : decode b_LM_best 0 = .ok (.aload_n 0, 1) := by decide +kernel
theorem d_LM_best_1 : decode b_LM_best 1 = .ok (.getfield 19, 3) := by decide +kernel
theorem d_LM_best_4 : decode b_LM_best 4 = .ok (.iload_n 1, 1) := by decide +kernel
theorem d_LM_best_5 : decode b_LM_best 5 = .ok (.invokevirtual 99, 3) := by decide +kernel
theorem d_LM_best_8 : decode b_LM_best 8 = .ok (.ifCond .ne 11, 3) := by decide +kernel
theorem d_LM_best_11 : decode b_LM_best 11 = .ok (.new 71, 3) := by decide +kernel
theorem d_LM_best_14 : decode b_LM_best 14 = .ok (.dup, 1) := by decide +kernel
theorem d_LM_best_15 : decode b_LM_best 15 = .ok (.invokespecial 73, 3) := by decide +kernel
theorem d_LM_best_18 : decode b_LM_best 18 = .ok (.athrow, 1) := by decide +kernel
theorem d_LM_best_19 : decode b_LM_best 19 = .ok (.aload_n 0, 1) := by decide +kernel
theorem d_LM_best_20 : decode b_LM_best 20 = .ok (.getfield 37, 3) := by decide +kernel
theorem d_LM_best_23 : decode b_LM_best 23 = .ok (.invokevirtual 145, 3) := by decide +kernel
theorem d_LM_best_26 : decode b_LM_best 26 = .ok (.aload_n 0, 1) := by decide +kernel
theorem d_LM_best_27 : decode b_LM_best 27 = .ok (.getfield 37, 3) := by decide +kernel
theorem d_LM_best_30 : decode b_LM_best 30 = .ok (.iload_n 1, 1) := by decide +kernel
theorem d_LM_best_31 : decode b_LM_best 31 = .ok (.invokevirtual 171, 3) := by decide +kernel
theorem d_LM_best_34 : decode b_LM_best 34 = .ok (.ireturn, 1) := by decide +kernel
theorem d_LM_turned_0 : decode b_LM_turned 0 = .ok (.aload_n 0, 1) := by decide +kernel
theorem d_LM_turned_1 : decode b_LM_turned 1 = .ok (.getfield 19, 3) := by decide +kernel
theorem d_LM_turned_4 : decode b_LM_turned 4 = .ok (.iload_n 1, 1) := by decide +kernel
theorem d_LM_turned_5 : decode b_LM_turned 5 = .ok (.invokevirtual 109, 3) := by decide +kernel
theorem d_LM_turned_8 : decode b_LM_turned 8 = .ok (.ifCond .eq 18, 3) := by decide +kernel
theorem d_LM_turned_11 : decode b_LM_turned 11 = .ok (.iload_n 2, 1) := by decide +kernel
theorem d_LM_turned_12 : decode b_LM_turned 12 = .ok (.ifCond .lt 14, 3) := by decide +kernel
theorem d_LM_turned_15 : decode b_LM_turned 15 = .ok (.iload_n 2, 1) := by decide +kernel
theorem d_LM_turned_16 : decode b_LM_turned 16 = .ok (.aload_n 0, 1) := by decide +kernel
theorem d_LM_turned_17 : decode b_LM_turned 17 = .ok (.getfield 12, 3) := by decide +kernel
theorem d_LM_turned_20 : decode b_LM_turned 20 = .ok (.invokevirtual 175, 3) := by decide +kernel
theorem d_LM_turned_23 : decode b_LM_turned 23 = .ok (.if_icmp .lt 11, 3) := by decide +kernel
theorem d_LM_turned_26 : decode b_LM_turned 26 = .ok (.new 71, 3) := by decide +kernel
theorem d_LM_turned_29 : decode b_LM_turned 29 = .ok (.dup, 1) := by decide +kernel
theorem d_LM_turned_30 : decode b_LM_turned 30 = .ok (.invokespecial 73, 3) := by decide +kernel
theorem d_LM_turned_33 : decode b_LM_turned 33 = .ok (.athrow, 1) := by decide +kernel
theorem d_LM_turned_34 : decode b_LM_turned 34 = .ok (.aload_n 0, 1) := by decide +kernel
theorem d_LM_turned_35 : decode b_LM_turned 35 = .ok (.getfield 37, 3) := by decide +kernel
theorem d_LM_turned_38 : decode b_LM_turned 38 = .ok (.invokevirtual 145, 3) := by decide +kernel
theorem d_LM_turned_41 : decode b_LM_turned 41 = .ok (.aload_n 0, 1) := by decide +kernel
theorem d_LM_turned_42 : decode b_LM_turned 42 = .ok (.getfield 37, 3) := by decide +kernel
theorem d_LM_turned_45 : decode b_LM_turned 45 = .ok (.iload_n 1, 1) := by decide +kernel
theorem d_LM_turned_46 : decode b_LM_turned 46 = .ok (.invokevirtual 178, 3) := by decide +kernel
theorem d_LM_turned_49 : decode b_LM_turned 49 = .ok (.aload_n 0, 1) := by decide +kernel
theorem d_LM_turned_50 : decode b_LM_turned 50 = .ok (.getfield 37, 3) := by decide +kernel
theorem d_LM_turned_53 : decode b_LM_turned 53 = .ok (.iload_n 2, 1) := by decide +kernel
theorem d_LM_turned_54 : decode b_LM_turned 54 = .ok (.invokevirtual 181, 3) := by decide +kernel
theorem d_LM_turned_57 : decode b_LM_turned 57 = .ok (.ireturn, 1) := by decide +kernel
theorem d_LM_shared_0 : decode b_LM_shared 0 = .ok (.aload_n 0, 1) := by decide +kernel
theorem d_LM_shared_1 : decode b_LM_shared 1 = .ok (.getfield 19, 3) := by decide +kernel
theorem d_LM_shared_4 : decode b_LM_shared 4 = .ok (.iload_n 1, 1) := by decide +kernel
theorem d_LM_shared_5 : decode b_LM_shared 5 = .ok (.invokevirtual 109, 3) := by decide +kernel
theorem d_LM_shared_8 : decode b_LM_shared 8 = .ok (.ifCond .eq 25, 3) := by decide +kernel
theorem d_LM_shared_11 : decode b_LM_shared 11 = .ok (.aload_n 0, 1) := by decide +kernel
theorem d_LM_shared_12 : decode b_LM_shared 12 = .ok (.getfield 12, 3) := by decide +kernel
theorem d_LM_shared_15 : decode b_LM_shared 15 = .ok (.iload_n 2, 1) := by decide +kernel
theorem d_LM_shared_16 : decode b_LM_shared 16 = .ok (.invokevirtual 67, 3) := by decide +kernel
theorem d_LM_shared_19 : decode b_LM_shared 19 = .ok (.ifCond .eq 14, 3) := by decide +kernel
theorem d_LM_shared_22 : decode b_LM_shared 22 = .ok (.aload_n 0, 1) := by decide +kernel
theorem d_LM_shared_23 : decode b_LM_shared 23 = .ok (.getfield 12, 3) := by decide +kernel
theorem d_LM_shared_26 : decode b_LM_shared 26 = .ok (.iload_n 3, 1) := by decide +kernel
theorem d_LM_shared_27 : decode b_LM_shared 27 = .ok (.invokevirtual 67, 3) := by decide +kernel
theorem d_LM_shared_30 : decode b_LM_shared 30 = .ok (.ifCond .ne 11, 3) := by decide +kernel
theorem d_LM_shared_33 : decode b_LM_shared 33 = .ok (.new 71, 3) := by decide +kernel
theorem d_LM_shared_36 : decode b_LM_shared 36 = .ok (.dup, 1) := by decide +kernel
theorem d_LM_shared_37 : decode b_LM_shared 37 = .ok (.invokespecial 73, 3) := by decide +kernel
theorem d_LM_shared_40 : decode b_LM_shared 40 = .ok (.athrow, 1) := by decide +kernel
theorem d_LM_shared_41 : decode b_LM_shared 41 = .ok (.aload_n 0, 1) := by decide +kernel
theorem d_LM_shared_42 : decode b_LM_shared 42 = .ok (.getfield 37, 3) := by decide +kernel
theorem d_LM_shared_45 : decode b_LM_shared 45 = .ok (.invokevirtual 145, 3) := by decide +kernel
theorem d_LM_shared_48 : decode b_LM_shared 48 = .ok (.aload_n 0, 1) := by decide +kernel
theorem d_LM_shared_49 : decode b_LM_shared 49 = .ok (.getfield 37, 3) := by decide +kernel
theorem d_LM_shared_52 : decode b_LM_shared 52 = .ok (.iload_n 1, 1) := by decide +kernel
theorem d_LM_shared_53 : decode b_LM_shared 53 = .ok (.invokevirtual 178, 3) := by decide +kernel
theorem d_LM_shared_56 : decode b_LM_shared 56 = .ok (.aload_n 0, 1) := by decide +kernel
theorem d_LM_shared_57 : decode b_LM_shared 57 = .ok (.getfield 37, 3) := by decide +kernel
theorem d_LM_shared_60 : decode b_LM_shared 60 = .ok (.iload_n 2, 1) := by decide +kernel
theorem d_LM_shared_61 : decode b_LM_shared 61 = .ok (.iload_n 3, 1) := by decide +kernel
theorem d_LM_shared_62 : decode b_LM_shared 62 = .ok (.invokevirtual 184, 3) := by decide +kernel
theorem d_LM_shared_65 : decode b_LM_shared 65 = .ok (.ireturn, 1) := by decide +kernel
theorem d_LM_likely_0 : decode b_LM_likely 0 = .ok (.aload_n 0, 1) := by decide +kernel
theorem d_LM_likely_1 : decode b_LM_likely 1 = .ok (.getfield 19, 3) := by decide +kernel
theorem d_LM_likely_4 : decode b_LM_likely 4 = .ok (.iload_n 1, 1) := by decide +kernel
theorem d_LM_likely_5 : decode b_LM_likely 5 = .ok (.invokevirtual 109, 3) := by decide +kernel
theorem d_LM_likely_8 : decode b_LM_likely 8 = .ok (.ifCond .ne 11, 3) := by decide +kernel
theorem d_LM_likely_11 : decode b_LM_likely 11 = .ok (.new 71, 3) := by decide +kernel
theorem d_LM_likely_14 : decode b_LM_likely 14 = .ok (.dup, 1) := by decide +kernel
theorem d_LM_likely_15 : decode b_LM_likely 15 = .ok (.invokespecial 73, 3) := by decide +kernel
theorem d_LM_likely_18 : decode b_LM_likely 18 = .ok (.athrow, 1) := by decide +kernel
theorem d_LM_likely_19 : decode b_LM_likely 19 = .ok (.aload_n 0, 1) := by decide +kernel
theorem d_LM_likely_20 : decode b_LM_likely 20 = .ok (.getfield 37, 3) := by decide +kernel
theorem d_LM_likely_23 : decode b_LM_likely 23 = .ok (.invokevirtual 145, 3) := by decide +kernel
theorem d_LM_likely_26 : decode b_LM_likely 26 = .ok (.aload_n 0, 1) := by decide +kernel
theorem d_LM_likely_27 : decode b_LM_likely 27 = .ok (.getfield 37, 3) := by decide +kernel
theorem d_LM_likely_30 : decode b_LM_likely 30 = .ok (.iload_n 1, 1) := by decide +kernel
theorem d_LM_likely_31 : decode b_LM_likely 31 = .ok (.invokevirtual 178, 3) := by decide +kernel
theorem d_LM_likely_34 : decode b_LM_likely 34 = .ok (.aload_n 0, 1) := by decide +kernel
theorem d_LM_likely_35 : decode b_LM_likely 35 = .ok (.getfield 37, 3) := by decide +kernel
theorem d_LM_likely_38 : decode b_LM_likely 38 = .ok (.invokevirtual 187, 3) := by decide +kernel
theorem d_LM_likely_41 : decode b_LM_likely 41 = .ok (.ireturn, 1) := by decide +kernel
