theorem d_La_founder_0 : decode b_La_founder 0 = .ok (.aload_n 1, 1) := by decide +kernel
theorem d_La_founder_1 : decode b_La_founder 1 = .ok (.iconst 0, 1) := by decide +kernel
theorem d_La_founder_2 : decode b_La_founder 2 = .ok (.aload_n 0, 1) := by decide +kernel
theorem d_La_founder_3 : decode b_La_founder 3 = .ok (.invokevirtual 7, 3) := by decide +kernel
theorem d_La_founder_6 : decode b_La_founder 6 = .ok (.i2l, 1) := by decide +kernel
theorem d_La_founder_7 : decode b_La_founder 7 = .ok (.lastore, 1) := by decide +kernel
theorem d_La_founder_8 : decode b_La_founder 8 = .ok (.goto 6, 3) := by decide +kernel
theorem d_La_founder_11 : decode b_La_founder 11 = .ok (.astore_n 2, 1) := by decide +kernel
theorem d_La_founder_12 : decode b_La_founder 12 = .ok (.iconst 1, 1) := by decide +kernel
theorem d_La_founder_13 : decode b_La_founder 13 = .ok (.ireturn, 1) := by decide +kernel
theorem d_La_founder_14 : decode b_La_founder 14 = .ok (.iconst 0, 1) := by decide +kernel
theorem d_La_founder_15 : decode b_La_founder 15 = .ok (.ireturn, 1) := by decide +kernel
theorem d_La_child_0 : decode b_La_child 0 = .ok (.aload_n 3, 1) := by decide +kernel
theorem d_La_child_1 : decode b_La_child 1 = .ok (.iconst 0, 1) := by decide +kernel
theorem d_La_child_2 : decode b_La_child 2 = .ok (.aload_n 0, 1) := by decide +kernel
theorem d_La_child_3 : decode b_La_child 3 = .ok (.iload_n 1, 1) := by decide +kernel
theorem d_La_child_4 : decode b_La_child 4 = .ok (.iload_n 2, 1) := by decide +kernel
theorem d_La_child_5 : decode b_La_child 5 = .ok (.invokevirtual 15, 3) := by decide +kernel
theorem d_La_child_8 : decode b_La_child 8 = .ok (.i2l, 1) := by decide +kernel
theorem d_La_child_9 : decode b_La_child 9 = .ok (.lastore, 1) := by decide +kernel
theorem d_La_child_10 : decode b_La_child 10 = .ok (.goto 11, 3) := by decide +kernel
theorem d_La_child_13 : decode b_La_child 13 = .ok (.astore 4, 2) := by decide +kernel
theorem d_La_child_15 : decode b_La_child 15 = .ok (.iconst 1, 1) := by decide +kernel
theorem d_La_child_16 : decode b_La_child 16 = .ok (.ireturn, 1) := by decide +kernel
theorem d_La_child_17 : decode b_La_child 17 = .ok (.astore 4, 2) := by decide +kernel
theorem d_La_child_19 : decode b_La_child 19 = .ok (.iconst 2, 1) := by decide +kernel
theorem d_La_child_20 : decode b_La_child 20 = .ok (.ireturn, 1) := by decide +kernel
theorem d_La_child_21 : decode b_La_child 21 = .ok (.iconst 0, 1) := by decide +kernel
theorem d_La_child_22 : decode b_La_child 22 = .ok (.ireturn, 1) := by decide +kernel
theorem d_La_marker_0 : decode b_La_marker 0 = .ok (.aload 4, 2) := by decide +kernel
theorem d_La_marker_2 : decode b_La_marker 2 = .ok (.iconst 0, 1) := by decide +kernel
theorem d_La_marker_3 : decode b_La_marker 3 = .ok (.aload_n 0, 1) := by decide +kernel
theorem d_La_marker_4 : decode b_La_marker 4 = .ok (.iload_n 1, 1) := by decide +kernel
theorem d_La_marker_5 : decode b_La_marker 5 = .ok (.iload_n 2, 1) := by decide +kernel
theorem d_La_marker_6 : decode b_La_marker 6 = .ok (.iload_n 3, 1) := by decide +kernel
theorem d_La_marker_7 : decode b_La_marker 7 = .ok (.invokevirtual 21, 3) := by decide +kernel
theorem d_La_marker_10 : decode b_La_marker 10 = .ok (.i2l, 1) := by decide +kernel
theorem d_La_marker_11 : decode b_La_marker 11 = .ok (.lastore, 1) := by decide +kernel
theorem d_La_marker_12 : decode b_La_marker 12 = .ok (.goto 11, 3) := by decide +kernel
theorem d_La_marker_15 : decode b_La_marker 15 = .ok (.astore 5, 2) := by decide +kernel
theorem d_La_marker_17 : decode b_La_marker 17 = .ok (.iconst 1, 1) := by decide +kernel
theorem d_La_marker_18 : decode b_La_marker 18 = .ok (.ireturn, 1) := by decide +kernel
theorem d_La_marker_19 : decode b_La_marker 19 = .ok (.astore 5, 2) := by decide +kernel
theorem d_La_marker_21 : decode b_La_marker 21 = .ok (.iconst 2, 1) := by decide +kernel
theorem d_La_marker_22 : decode b_La_marker 22 = .ok (.ireturn, 1) := by decide +kernel
theorem d_La_marker_23 : decode b_La_marker 23 = .ok (.iconst 0, 1) := by decide +kernel
theorem d_La_marker_24 : decode b_La_marker 24 = .ok (.ireturn, 1) := by decide +kernel
theorem d_La_rate_0 : decode b_La_rate 0 = .ok (.aload_n 3, 1) := by decide +kernel
theorem d_La_rate_1 : decode b_La_rate 1 = .ok (.iconst 0, 1) := by decide +kernel
theorem d_La_rate_2 : decode b_La_rate 2 = .ok (.aload_n 0, 1) := by decide +kernel
theorem d_La_rate_3 : decode b_La_rate 3 = .ok (.iload_n 1, 1) := by decide +kernel
theorem d_La_rate_4 : decode b_La_rate 4 = .ok (.iload_n 2, 1) := by decide +kernel
theorem d_La_rate_5 : decode b_La_rate 5 = .ok (.invokevirtual 27, 3) := by decide +kernel
theorem d_La_rate_8 : decode b_La_rate 8 = .ok (.i2l, 1) := by decide +kernel
theorem d_La_rate_9 : decode b_La_rate 9 = .ok (.lastore, 1) := by decide +kernel
theorem d_La_rate_10 : decode b_La_rate 10 = .ok (.goto 11, 3) := by decide +kernel
theorem d_La_rate_13 : decode b_La_rate 13 = .ok (.astore 4, 2) := by decide +kernel
theorem d_La_rate_15 : decode b_La_rate 15 = .ok (.iconst 1, 1) := by decide +kernel
theorem d_La_rate_16 : decode b_La_rate 16 = .ok (.ireturn, 1) := by decide +kernel
theorem d_La_rate_17 : decode b_La_rate 17 = .ok (.astore 4, 2) := by decide +kernel
theorem d_La_rate_19 : decode b_La_rate 19 = .ok (.iconst 2, 1) := by decide +kernel
theorem d_La_rate_20 : decode b_La_rate 20 = .ok (.ireturn, 1) := by decide +kernel
theorem d_La_rate_21 : decode b_La_rate 21 = .ok (.iconst 0, 1) := by decide +kernel
theorem d_La_rate_22 : decode b_La_rate 22 = .ok (.ireturn, 1) := by decide +kernel
theorem d_La_see_0 : decode b_La_see 0 = .ok (.aload_n 0, 1) := by decide +kernel
theorem d_La_see_1 : decode b_La_see 1 = .ok (.iload_n 1, 1) := by decide +kernel
theorem d_La_see_2 : decode b_La_see 2 = .ok (.iload_n 2, 1) := by decide +kernel
theorem d_La_see_3 : decode b_La_see 3 = .ok (.iload_n 3, 1) := by decide +kernel
theorem d_La_see_4 : decode b_La_see 4 = .ok (.iload 4, 2) := by decide +kernel
theorem d_La_see_6 : decode b_La_see 6 = .ok (.invokevirtual 30, 3) := by decide +kernel
theorem d_La_see_9 : decode b_La_see 9 = .ok (.goto 11, 3) := by decide +kernel
theorem d_La_see_12 : decode b_La_see 12 = .ok (.astore 5, 2) := by decide +kernel
theorem d_La_see_14 : decode b_La_see 14 = .ok (.iconst 1, 1) := by decide +kernel
theorem d_La_see_15 : decode b_La_see 15 = .ok (.ireturn, 1) := by decide +kernel
theorem d_La_see_16 : decode b_La_see 16 = .ok (.astore 5, 2) := by decide +kernel
theorem d_La_see_18 : decode b_La_see 18 = .ok (.iconst 2, 1) := by decide +kernel
theorem d_La_see_19 : decode b_La_see 19 = .ok (.ireturn, 1) := by decide +kernel
theorem d_La_see_20 : decode b_La_see 20 = .ok (.iconst 0, 1) := by decide +kernel
theorem d_La_see_21 : decode b_La_see 21 = .ok (.ireturn, 1) := by decide +kernel
theorem d_La_unsee_0 : decode b_La_unsee 0 = .ok (.aload_n 3, 1) := by decide +kernel
theorem d_La_unsee_1 : decode b_La_unsee 1 = .ok (.iconst 0, 1) := by decide +kernel
theorem d_La_unsee_2 : decode b_La_unsee 2 = .ok (.aload_n 0, 1) := by decide +kernel
theorem d_La_unsee_3 : decode b_La_unsee 3 = .ok (.iload_n 1, 1) := by decide +kernel
theorem d_La_unsee_4 : decode b_La_unsee 4 = .ok (.iload_n 2, 1) := by decide +kernel
theorem d_La_unsee_5 : decode b_La_unsee 5 = .ok (.invokevirtual 34, 3) := by decide +kernel
theorem d_La_unsee_8 : decode b_La_unsee 8 = .ok (.ifCond .eq 7, 3) := by decide +kernel
theorem d_La_unsee_11 : decode b_La_unsee 11 = .ok (.lconst 1, 1) := by decide +kernel
theorem d_La_unsee_12 : decode b_La_unsee 12 = .ok (.goto 4, 3) := by decide +kernel
theorem d_La_unsee_15 : decode b_La_unsee 15 = .ok (.lconst 0, 1) := by decide +kernel
theorem d_La_unsee_16 : decode b_La_unsee 16 = .ok (.lastore, 1) := by decide +kernel
theorem d_La_unsee_17 : decode b_La_unsee 17 = .ok (.goto 7, 3) := by decide +kernel
theorem d_La_unsee_20 : decode b_La_unsee 20 = .ok (.astore 4, 2) := by decide +kernel
theorem d_La_unsee_22 : decode b_La_unsee 22 = .ok (.iconst 1, 1) := by decide +kernel
theorem d_La_unsee_23 : decode b_La_unsee 23 = .ok (.ireturn, 1) := by decide +kernel
theorem d_La_unsee_24 : decode b_La_unsee 24 = .ok (.iconst 0, 1) := by decide +kernel
theorem d_La_unsee_25 : decode b_La_unsee 25 = .ok (.ireturn, 1) := by decide +kernel
theorem d_La_origin_0 : decode b_La_origin 0 = .ok (.aload 4, 2) := by decide +kernel
theorem d_La_origin_2 : decode b_La_origin 2 = .ok (.iconst 0, 1) := by decide +kernel
theorem d_La_origin_3 : decode b_La_origin 3 = .ok (.aload_n 0, 1) := by decide +kernel
theorem d_La_origin_4 : decode b_La_origin 4 = .ok (.iload_n 1, 1) := by decide +kernel
theorem d_La_origin_5 : decode b_La_origin 5 = .ok (.iload_n 2, 1) := by decide +kernel
theorem d_La_origin_6 : decode b_La_origin 6 = .ok (.iload_n 3, 1) := by decide +kernel
theorem d_La_origin_7 : decode b_La_origin 7 = .ok (.invokevirtual 38, 3) := by decide +kernel
theorem d_La_origin_10 : decode b_La_origin 10 = .ok (.i2l, 1) := by decide +kernel
theorem d_La_origin_11 : decode b_La_origin 11 = .ok (.lastore, 1) := by decide +kernel
theorem d_La_origin_12 : decode b_La_origin 12 = .ok (.goto 7, 3) := by decide +kernel
theorem d_La_origin_15 : decode b_La_origin 15 = .ok (.astore 5, 2) := by decide +kernel
theorem d_La_origin_17 : decode b_La_origin 17 = .ok (.iconst 1, 1) := by decide +kernel
theorem d_La_origin_18 : decode b_La_origin 18 = .ok (.ireturn, 1) := by decide +kernel
theorem d_La_origin_19 : decode b_La_origin 19 = .ok (.iconst 0, 1) := by decide +kernel
theorem d_La_origin_20 : decode b_La_origin 20 = .ok (.ireturn, 1) := by decide +kernel
theorem d_La_fit_0 : decode b_La_fit 0 = .ok (.aload_n 3, 1) := by decide +kernel
theorem d_La_fit_1 : decode b_La_fit 1 = .ok (.iconst 0, 1) := by decide +kernel
theorem d_La_fit_2 : decode b_La_fit 2 = .ok (.aload_n 0, 1) := by decide +kernel
theorem d_La_fit_3 : decode b_La_fit 3 = .ok (.iload_n 1, 1) := by decide +kernel
theorem d_La_fit_4 : decode b_La_fit 4 = .ok (.iload_n 2, 1) := by decide +kernel
theorem d_La_fit_5 : decode b_La_fit 5 = .ok (.invokevirtual 41, 3) := by decide +kernel
theorem d_La_fit_8 : decode b_La_fit 8 = .ok (.i2l, 1) := by decide +kernel
theorem d_La_fit_9 : decode b_La_fit 9 = .ok (.lastore, 1) := by decide +kernel
theorem d_La_fit_10 : decode b_La_fit 10 = .ok (.goto 7, 3) := by decide +kernel
theorem d_La_fit_13 : decode b_La_fit 13 = .ok (.astore 4, 2) := by decide +kernel
theorem d_La_fit_15 : decode b_La_fit 15 = .ok (.iconst 1, 1) := by decide +kernel
theorem d_La_fit_16 : decode b_La_fit 16 = .ok (.ireturn, 1) := by decide +kernel
theorem d_La_fit_17 : decode b_La_fit 17 = .ok (.iconst 0, 1) := by decide +kernel
theorem d_La_fit_18 : decode b_La_fit 18 = .ok (.ireturn, 1) := by decide +kernel
theorem d_La_joint_0 : decode b_La_joint 0 = .ok (.aload_n 1, 1) := by decide +kernel
theorem d_La_joint_1 : decode b_La_joint 1 = .ok (.iconst 0, 1) := by decide +kernel
theorem d_La_joint_2 : decode b_La_joint 2 = .ok (.aload_n 0, 1) := by decide +kernel
theorem d_La_joint_3 : decode b_La_joint 3 = .ok (.invokevirtual 44, 3) := by decide +kernel
theorem d_La_joint_6 : decode b_La_joint 6 = .ok (.i2l, 1) := by decide +kernel
theorem d_La_joint_7 : decode b_La_joint 7 = .ok (.lastore, 1) := by decide +kernel
theorem d_La_joint_8 : decode b_La_joint 8 = .ok (.goto 6, 3) := by decide +kernel
theorem d_La_joint_11 : decode b_La_joint 11 = .ok (.astore_n 2, 1) := by decide +kernel
theorem d_La_joint_12 : decode b_La_joint 12 = .ok (.iconst 1, 1) := by decide +kernel
theorem d_La_joint_13 : decode b_La_joint 13 = .ok (.ireturn, 1) := by decide +kernel
theorem d_La_joint_14 : decode b_La_joint 14 = .ok (.iconst 0, 1) := by decide +kernel
theorem d_La_joint_15 : decode b_La_joint 15 = .ok (.ireturn, 1) := by decide +kernel
theorem d_La_odds_0 : decode b_La_odds 0 = .ok (.aload_n 2, 1) := by decide +kernel
theorem d_La_odds_1 : decode b_La_odds 1 = .ok (.iconst 0, 1) := by decide +kernel
theorem d_La_odds_2 : decode b_La_odds 2 = .ok (.aload_n 0, 1) := by decide +kernel
theorem d_La_odds_3 : decode b_La_odds 3 = .ok (.iload_n 1, 1) := by decide +kernel
theorem d_La_odds_4 : decode b_La_odds 4 = .ok (.invokevirtual 47, 3) := by decide +kernel
theorem d_La_odds_7 : decode b_La_odds 7 = .ok (.i2l, 1) := by decide +kernel
theorem d_La_odds_8 : decode b_La_odds 8 = .ok (.lastore, 1) := by decide +kernel
theorem d_La_odds_9 : decode b_La_odds 9 = .ok (.goto 9, 3) := by decide +kernel
theorem d_La_odds_12 : decode b_La_odds 12 = .ok (.astore_n 3, 1) := by decide +kernel
theorem d_La_odds_13 : decode b_La_odds 13 = .ok (.iconst 1, 1) := by decide +kernel
theorem d_La_odds_14 : decode b_La_odds 14 = .ok (.ireturn, 1) := by decide +kernel
theorem d_La_odds_15 : decode b_La_odds 15 = .ok (.astore_n 3, 1) := by decide +kernel
theorem d_La_odds_16 : decode b_La_odds 16 = .ok (.iconst 2, 1) := by decide +kernel
theorem d_La_odds_17 : decode b_La_odds 17 = .ok (.ireturn, 1) := by decide +kernel
theorem d_La_odds_18 : decode b_La_odds 18 = .ok (.iconst 0, 1) := by decide +kernel
theorem d_La_odds_19 : decode b_La_odds 19 = .ok (.ireturn, 1) := by decide +kernel
theorem d_La_would_0 : decode b_La_would 0 = .ok (.aload_n 3, 1) := by decide +kernel
theorem d_La_would_1 : decode b_La_would 1 = .ok (.iconst 0, 1) := by decide +kernel
theorem d_La_would_2 : decode b_La_would 2 = .ok (.aload_n 0, 1) := by decide +kernel
theorem d_La_would_3 : decode b_La_would 3 = .ok (.iload_n 1, 1) := by decide +kernel
theorem d_La_would_4 : decode b_La_would 4 = .ok (.iload_n 2, 1) := by decide +kernel
theorem d_La_would_5 : decode b_La_would 5 = .ok (.invokevirtual 51, 3) := by decide +kernel
theorem d_La_would_8 : decode b_La_would 8 = .ok (.i2l, 1) := by decide +kernel
theorem d_La_would_9 : decode b_La_would 9 = .ok (.lastore, 1) := by decide +kernel
theorem d_La_would_10 : decode b_La_would 10 = .ok (.goto 11, 3) := by decide +kernel
theorem d_La_would_13 : decode b_La_would 13 = .ok (.astore 4, 2) := by decide +kernel
theorem d_La_would_15 : decode b_La_would 15 = .ok (.iconst 1, 1) := by decide +kernel
theorem d_La_would_16 : decode b_La_would 16 = .ok (.ireturn, 1) := by decide +kernel
theorem d_La_would_17 : decode b_La_would 17 = .ok (.astore 4, 2) := by decide +kernel
theorem d_La_would_19 : decode b_La_would 19 = .ok (.iconst 2, 1) := by decide +kernel
theorem d_La_would_20 : decode b_La_would 20 = .ok (.ireturn, 1) := by decide +kernel
theorem d_La_would_21 : decode b_La_would 21 = .ok (.iconst 0, 1) := by decide +kernel
theorem d_La_would_22 : decode b_La_would 22 = .ok (.ireturn, 1) := by decide +kernel
theorem d_La_best_0 : decode b_La_best 0 = .ok (.aload_n 2, 1) := by decide +kernel
theorem d_La_best_1 : decode b_La_best 1 = .ok (.iconst 0, 1) := by decide +kernel
theorem d_La_best_2 : decode b_La_best 2 = .ok (.aload_n 0, 1) := by decide +kernel
theorem d_La_best_3 : decode b_La_best 3 = .ok (.iload_n 1, 1) := by decide +kernel
theorem d_La_best_4 : decode b_La_best 4 = .ok (.invokevirtual 54, 3) := by decide +kernel
theorem d_La_best_7 : decode b_La_best 7 = .ok (.i2l, 1) := by decide +kernel
theorem d_La_best_8 : decode b_La_best 8 = .ok (.lastore, 1) := by decide +kernel
theorem d_La_best_9 : decode b_La_best 9 = .ok (.goto 6, 3) := by decide +kernel
theorem d_La_best_12 : decode b_La_best 12 = .ok (.astore_n 3, 1) := by decide +kernel
theorem d_La_best_13 : decode b_La_best 13 = .ok (.iconst 1, 1) := by decide +kernel
theorem d_La_best_14 : decode b_La_best 14 = .ok (.ireturn, 1) := by decide +kernel
theorem d_La_best_15 : decode b_La_best 15 = .ok (.iconst 0, 1) := by decide +kernel
theorem d_La_best_16 : decode b_La_best 16 = .ok (.ireturn, 1) := by decide +kernel
theorem d_La_turned_0 : decode b_La_turned 0 = .ok (.aload_n 3, 1) := by decide +kernel
theorem d_La_turned_1 : decode b_La_turned 1 = .ok (.iconst 0, 1) := by decide +kernel
theorem d_La_turned_2 : decode b_La_turned 2 = .ok (.aload_n 0, 1) := by decide +kernel
theorem d_La_turned_3 : decode b_La_turned 3 = .ok (.iload_n 1, 1) := by decide +kernel
theorem d_La_turned_4 : decode b_La_turned 4 = .ok (.iload_n 2, 1) := by decide +kernel
theorem d_La_turned_5 : decode b_La_turned 5 = .ok (.invokevirtual 57, 3) := by decide +kernel
theorem d_La_turned_8 : decode b_La_turned 8 = .ok (.i2l, 1) := by decide +kernel
theorem d_La_turned_9 : decode b_La_turned 9 = .ok (.lastore, 1) := by decide +kernel
theorem d_La_turned_10 : decode b_La_turned 10 = .ok (.goto 7, 3) := by decide +kernel
theorem d_La_turned_13 : decode b_La_turned 13 = .ok (.astore 4, 2) := by decide +kernel
theorem d_La_turned_15 : decode b_La_turned 15 = .ok (.iconst 1, 1) := by decide +kernel
theorem d_La_turned_16 : decode b_La_turned 16 = .ok (.ireturn, 1) := by decide +kernel
theorem d_La_turned_17 : decode b_La_turned 17 = .ok (.iconst 0, 1) := by decide +kernel
theorem d_La_turned_18 : decode b_La_turned 18 = .ok (.ireturn, 1) := by decide +kernel
theorem d_La_shared_0 : decode b_La_shared 0 = .ok (.aload 4, 2) := by decide +kernel
theorem d_La_shared_2 : decode b_La_shared 2 = .ok (.iconst 0, 1) := by decide +kernel
theorem d_La_shared_3 : decode b_La_shared 3 = .ok (.aload_n 0, 1) := by decide +kernel
theorem d_La_shared_4 : decode b_La_shared 4 = .ok (.iload_n 1, 1) := by decide +kernel
theorem d_La_shared_5 : decode b_La_shared 5 = .ok (.iload_n 2, 1) := by decide +kernel
theorem d_La_shared_6 : decode b_La_shared 6 = .ok (.iload_n 3, 1) := by decide +kernel
theorem d_La_shared_7 : decode b_La_shared 7 = .ok (.invokevirtual 60, 3) := by decide +kernel
theorem d_La_shared_10 : decode b_La_shared 10 = .ok (.i2l, 1) := by decide +kernel
theorem d_La_shared_11 : decode b_La_shared 11 = .ok (.lastore, 1) := by decide +kernel
theorem d_La_shared_12 : decode b_La_shared 12 = .ok (.goto 7, 3) := by decide +kernel
theorem d_La_shared_15 : decode b_La_shared 15 = .ok (.astore 5, 2) := by decide +kernel
theorem d_La_shared_17 : decode b_La_shared 17 = .ok (.iconst 1, 1) := by decide +kernel
theorem d_La_shared_18 : decode b_La_shared 18 = .ok (.ireturn, 1) := by decide +kernel
theorem d_La_shared_19 : decode b_La_shared 19 = .ok (.iconst 0, 1) := by decide +kernel
theorem d_La_shared_20 : decode b_La_shared 20 = .ok (.ireturn, 1) := by decide +kernel
theorem d_La_likely_0 : decode b_La_likely 0 = .ok (.aload_n 2, 1) := by decide +kernel
theorem d_La_likely_1 : decode b_La_likely 1 = .ok (.iconst 0, 1) := by decide +kernel
theorem d_La_likely_2 : decode b_La_likely 2 = .ok (.aload_n 0, 1) := by decide +kernel
theorem d_La_likely_3 : decode b_La_likely 3 = .ok (.iload_n 1, 1) := by decide +kernel
theorem d_La_likely_4 : decode b_La_likely 4 = .ok (.invokevirtual 63, 3) := by decide +kernel
theorem d_La_likely_7 : decode b_La_likely 7 = .ok (.i2l, 1) := by decide +kernel
theorem d_La_likely_8 : decode b_La_likely 8 = .ok (.lastore, 1) := by decide +kernel
theorem d_La_likely_9 : decode b_La_likely 9 = .ok (.goto 6, 3) := by decide +kernel
theorem d_La_likely_12 : decode b_La_likely 12 = .ok (.astore_n 3, 1) := by decide +kernel
theorem d_La_likely_13 : decode b_La_likely 13 = .ok (.iconst 1, 1) := by decide +kernel
theorem d_La_likely_14 : decode b_La_likely 14 = .ok (.ireturn, 1) := by decide +kernel
theorem d_La_likely_15 : decode b_La_likely 15 = .ok (.iconst 0, 1) := by decide +kernel
theorem d_La_likely_16 : decode b_La_likely 16 = .ok (.ireturn, 1) := by decide +kernel
