theorem d_Su_quotient_0 : decode b_Su_quotient 0 = .ok (.aload_n 0, 1) := by decide +kernel
theorem d_Su_quotient_1 : decode b_Su_quotient 1 = .ok (.getfield 42, 3) := by decide +kernel
theorem d_Su_quotient_4 : decode b_Su_quotient 4 = .ok (.iload_n 3, 1) := by decide +kernel
theorem d_Su_quotient_5 : decode b_Su_quotient 5 = .ok (.invokevirtual 108, 3) := by decide +kernel
theorem d_Su_quotient_8 : decode b_Su_quotient 8 = .ok (.ifCond .eq 5, 3) := by decide +kernel
theorem d_Su_quotient_11 : decode b_Su_quotient 11 = .ok (.iconst (-1), 1) := by decide +kernel
theorem d_Su_quotient_12 : decode b_Su_quotient 12 = .ok (.ireturn, 1) := by decide +kernel
theorem d_Su_quotient_13 : decode b_Su_quotient 13 = .ok (.aload_n 0, 1) := by decide +kernel
theorem d_Su_quotient_14 : decode b_Su_quotient 14 = .ok (.getfield 42, 3) := by decide +kernel
theorem d_Su_quotient_17 : decode b_Su_quotient 17 = .ok (.iload_n 1, 1) := by decide +kernel
theorem d_Su_quotient_18 : decode b_Su_quotient 18 = .ok (.iload_n 2, 1) := by decide +kernel
theorem d_Su_quotient_19 : decode b_Su_quotient 19 = .ok (.invokevirtual 112, 3) := by decide +kernel
theorem d_Su_quotient_22 : decode b_Su_quotient 22 = .ok (.iconst 0, 1) := by decide +kernel
theorem d_Su_quotient_23 : decode b_Su_quotient 23 = .ok (.istore 4, 2) := by decide +kernel
theorem d_Su_quotient_25 : decode b_Su_quotient 25 = .ok (.bipush 27, 2) := by decide +kernel
theorem d_Su_quotient_27 : decode b_Su_quotient 27 = .ok (.istore 5, 2) := by decide +kernel
theorem d_Su_quotient_29 : decode b_Su_quotient 29 = .ok (.iload 5, 2) := by decide +kernel
theorem d_Su_quotient_31 : decode b_Su_quotient 31 = .ok (.ifCond .lt 53, 3) := by decide +kernel
theorem d_Su_quotient_34 : decode b_Su_quotient 34 = .ok (.iload 4, 2) := by decide +kernel
theorem d_Su_quotient_36 : decode b_Su_quotient 36 = .ok (.iconst 1, 1) := by decide +kernel
theorem d_Su_quotient_37 : decode b_Su_quotient 37 = .ok (.iload 5, 2) := by decide +kernel
theorem d_Su_quotient_39 : decode b_Su_quotient 39 = .ok (.ishl, 1) := by decide +kernel
theorem d_Su_quotient_40 : decode b_Su_quotient 40 = .ok (.iadd, 1) := by decide +kernel
theorem d_Su_quotient_41 : decode b_Su_quotient 41 = .ok (.istore 6, 2) := by decide +kernel
theorem d_Su_quotient_43 : decode b_Su_quotient 43 = .ok (.aload_n 0, 1) := by decide +kernel
theorem d_Su_quotient_44 : decode b_Su_quotient 44 = .ok (.getfield 42, 3) := by decide +kernel
theorem d_Su_quotient_47 : decode b_Su_quotient 47 = .ok (.iconst 3, 1) := by decide +kernel
theorem d_Su_quotient_48 : decode b_Su_quotient 48 = .ok (.iload_n 3, 1) := by decide +kernel
theorem d_Su_quotient_49 : decode b_Su_quotient 49 = .ok (.invokevirtual 90, 3) := by decide +kernel
theorem d_Su_quotient_52 : decode b_Su_quotient 52 = .ok (.aload_n 0, 1) := by decide +kernel
theorem d_Su_quotient_53 : decode b_Su_quotient 53 = .ok (.getfield 42, 3) := by decide +kernel
theorem d_Su_quotient_56 : decode b_Su_quotient 56 = .ok (.iconst 3, 1) := by decide +kernel
theorem d_Su_quotient_57 : decode b_Su_quotient 57 = .ok (.iload 6, 2) := by decide +kernel
theorem d_Su_quotient_59 : decode b_Su_quotient 59 = .ok (.invokevirtual 112, 3) := by decide +kernel
theorem d_Su_quotient_62 : decode b_Su_quotient 62 = .ok (.aload_n 0, 1) := by decide +kernel
theorem d_Su_quotient_63 : decode b_Su_quotient 63 = .ok (.getfield 42, 3) := by decide +kernel
theorem d_Su_quotient_66 : decode b_Su_quotient 66 = .ok (.iconst 3, 1) := by decide +kernel
theorem d_Su_quotient_67 : decode b_Su_quotient 67 = .ok (.iload_n 1, 1) := by decide +kernel
theorem d_Su_quotient_68 : decode b_Su_quotient 68 = .ok (.invokevirtual 86, 3) := by decide +kernel
theorem d_Su_quotient_71 : decode b_Su_quotient 71 = .ok (.ifCond .gt 7, 3) := by decide +kernel
theorem d_Su_quotient_74 : decode b_Su_quotient 74 = .ok (.iload 6, 2) := by decide +kernel
theorem d_Su_quotient_76 : decode b_Su_quotient 76 = .ok (.istore 4, 2) := by decide +kernel
theorem d_Su_quotient_78 : decode b_Su_quotient 78 = .ok (.iinc 5 (-1), 3) := by decide +kernel
theorem d_Su_quotient_81 : decode b_Su_quotient 81 = .ok (.goto (-52), 3) := by decide +kernel
theorem d_Su_quotient_84 : decode b_Su_quotient 84 = .ok (.iload 4, 2) := by decide +kernel
theorem d_Su_quotient_86 : decode b_Su_quotient 86 = .ok (.ireturn, 1) := by decide +kernel
theorem d_Su_thousandthsTurned_0 : decode b_Su_thousandthsTurned 0 = .ok (.aload_n 0, 1) := by decide +kernel
theorem d_Su_thousandthsTurned_1 : decode b_Su_thousandthsTurned 1 = .ok (.getfield 42, 3) := by decide +kernel
theorem d_Su_thousandthsTurned_4 : decode b_Su_thousandthsTurned 4 = .ok (.iconst 1, 1) := by decide +kernel
theorem d_Su_thousandthsTurned_5 : decode b_Su_thousandthsTurned 5 = .ok (.iconst 0, 1) := by decide +kernel
theorem d_Su_thousandthsTurned_6 : decode b_Su_thousandthsTurned 6 = .ok (.invokevirtual 93, 3) := by decide +kernel
theorem d_Su_thousandthsTurned_9 : decode b_Su_thousandthsTurned 9 = .ok (.iconst 0, 1) := by decide +kernel
theorem d_Su_thousandthsTurned_10 : decode b_Su_thousandthsTurned 10 = .ok (.istore_n 2, 1) := by decide +kernel
theorem d_Su_thousandthsTurned_11 : decode b_Su_thousandthsTurned 11 = .ok (.iload_n 2, 1) := by decide +kernel
theorem d_Su_thousandthsTurned_12 : decode b_Su_thousandthsTurned 12 = .ok (.aload_n 0, 1) := by decide +kernel
theorem d_Su_thousandthsTurned_13 : decode b_Su_thousandthsTurned 13 = .ok (.getfield 9, 3) := by decide +kernel
theorem d_Su_thousandthsTurned_16 : decode b_Su_thousandthsTurned 16 = .ok (.invokevirtual 70, 3) := by decide +kernel
theorem d_Su_thousandthsTurned_19 : decode b_Su_thousandthsTurned 19 = .ok (.if_icmp .ge 31, 3) := by decide +kernel
theorem d_Su_thousandthsTurned_22 : decode b_Su_thousandthsTurned 22 = .ok (.iload_n 2, 1) := by decide +kernel
theorem d_Su_thousandthsTurned_23 : decode b_Su_thousandthsTurned 23 = .ok (.iload_n 1, 1) := by decide +kernel
theorem d_Su_thousandthsTurned_24 : decode b_Su_thousandthsTurned 24 = .ok (.ishr, 1) := by decide +kernel
theorem d_Su_thousandthsTurned_25 : decode b_Su_thousandthsTurned 25 = .ok (.iconst 1, 1) := by decide +kernel
theorem d_Su_thousandthsTurned_26 : decode b_Su_thousandthsTurned 26 = .ok (.iand, 1) := by decide +kernel
theorem d_Su_thousandthsTurned_27 : decode b_Su_thousandthsTurned 27 = .ok (.iconst 1, 1) := by decide +kernel
theorem d_Su_thousandthsTurned_28 : decode b_Su_thousandthsTurned 28 = .ok (.if_icmp .ne 16, 3) := by decide +kernel
theorem d_Su_thousandthsTurned_31 : decode b_Su_thousandthsTurned 31 = .ok (.aload_n 0, 1) := by decide +kernel
theorem d_Su_thousandthsTurned_32 : decode b_Su_thousandthsTurned 32 = .ok (.getfield 42, 3) := by decide +kernel
theorem d_Su_thousandthsTurned_35 : decode b_Su_thousandthsTurned 35 = .ok (.iconst 1, 1) := by decide +kernel
theorem d_Su_thousandthsTurned_36 : decode b_Su_thousandthsTurned 36 = .ok (.aload_n 0, 1) := by decide +kernel
theorem d_Su_thousandthsTurned_37 : decode b_Su_thousandthsTurned 37 = .ok (.getfield 39, 3) := by decide +kernel
theorem d_Su_thousandthsTurned_40 : decode b_Su_thousandthsTurned 40 = .ok (.iload_n 2, 1) := by decide +kernel
theorem d_Su_thousandthsTurned_41 : decode b_Su_thousandthsTurned 41 = .ok (.invokevirtual 96, 3) := by decide +kernel
theorem d_Su_thousandthsTurned_44 : decode b_Su_thousandthsTurned 44 = .ok (.iinc 2 1, 3) := by decide +kernel
theorem d_Su_thousandthsTurned_47 : decode b_Su_thousandthsTurned 47 = .ok (.goto (-36), 3) := by decide +kernel
theorem d_Su_thousandthsTurned_50 : decode b_Su_thousandthsTurned 50 = .ok (.aload_n 0, 1) := by decide +kernel
theorem d_Su_thousandthsTurned_51 : decode b_Su_thousandthsTurned 51 = .ok (.iconst 1, 1) := by decide +kernel
theorem d_Su_thousandthsTurned_52 : decode b_Su_thousandthsTurned 52 = .ok (.sipush 1000, 3) := by decide +kernel
theorem d_Su_thousandthsTurned_55 : decode b_Su_thousandthsTurned 55 = .ok (.iconst 0, 1) := by decide +kernel
theorem d_Su_thousandthsTurned_56 : decode b_Su_thousandthsTurned 56 = .ok (.invokevirtual 100, 3) := by decide +kernel
theorem d_Su_thousandthsTurned_59 : decode b_Su_thousandthsTurned 59 = .ok (.ireturn, 1) := by decide +kernel
theorem d_Su_thousandthsShared_0 : decode b_Su_thousandthsShared 0 = .ok (.aload_n 0, 1) := by decide +kernel
theorem d_Su_thousandthsShared_1 : decode b_Su_thousandthsShared 1 = .ok (.getfield 42, 3) := by decide +kernel
theorem d_Su_thousandthsShared_4 : decode b_Su_thousandthsShared 4 = .ok (.iconst 1, 1) := by decide +kernel
theorem d_Su_thousandthsShared_5 : decode b_Su_thousandthsShared 5 = .ok (.iconst 0, 1) := by decide +kernel
theorem d_Su_thousandthsShared_6 : decode b_Su_thousandthsShared 6 = .ok (.invokevirtual 93, 3) := by decide +kernel
theorem d_Su_thousandthsShared_9 : decode b_Su_thousandthsShared 9 = .ok (.iconst 0, 1) := by decide +kernel
theorem d_Su_thousandthsShared_10 : decode b_Su_thousandthsShared 10 = .ok (.istore_n 3, 1) := by decide +kernel
theorem d_Su_thousandthsShared_11 : decode b_Su_thousandthsShared 11 = .ok (.iload_n 3, 1) := by decide +kernel
theorem d_Su_thousandthsShared_12 : decode b_Su_thousandthsShared 12 = .ok (.aload_n 0, 1) := by decide +kernel
theorem d_Su_thousandthsShared_13 : decode b_Su_thousandthsShared 13 = .ok (.getfield 9, 3) := by decide +kernel
theorem d_Su_thousandthsShared_16 : decode b_Su_thousandthsShared 16 = .ok (.invokevirtual 70, 3) := by decide +kernel
theorem d_Su_thousandthsShared_19 : decode b_Su_thousandthsShared 19 = .ok (.if_icmp .ge 35, 3) := by decide +kernel
theorem d_Su_thousandthsShared_22 : decode b_Su_thousandthsShared 22 = .ok (.aload_n 0, 1) := by decide +kernel
theorem d_Su_thousandthsShared_23 : decode b_Su_thousandthsShared 23 = .ok (.getfield 9, 3) := by decide +kernel
theorem d_Su_thousandthsShared_26 : decode b_Su_thousandthsShared 26 = .ok (.iload_n 1, 1) := by decide +kernel
theorem d_Su_thousandthsShared_27 : decode b_Su_thousandthsShared 27 = .ok (.iload_n 2, 1) := by decide +kernel
theorem d_Su_thousandthsShared_28 : decode b_Su_thousandthsShared 28 = .ok (.iload_n 3, 1) := by decide +kernel
theorem d_Su_thousandthsShared_29 : decode b_Su_thousandthsShared 29 = .ok (.invokevirtual 104, 3) := by decide +kernel
theorem d_Su_thousandthsShared_32 : decode b_Su_thousandthsShared 32 = .ok (.ifCond .eq 16, 3) := by decide +kernel
theorem d_Su_thousandthsShared_35 : decode b_Su_thousandthsShared 35 = .ok (.aload_n 0, 1) := by decide +kernel
theorem d_Su_thousandthsShared_36 : decode b_Su_thousandthsShared 36 = .ok (.getfield 42, 3) := by decide +kernel
theorem d_Su_thousandthsShared_39 : decode b_Su_thousandthsShared 39 = .ok (.iconst 1, 1) := by decide +kernel
theorem d_Su_thousandthsShared_40 : decode b_Su_thousandthsShared 40 = .ok (.aload_n 0, 1) := by decide +kernel
theorem d_Su_thousandthsShared_41 : decode b_Su_thousandthsShared 41 = .ok (.getfield 39, 3) := by decide +kernel
theorem d_Su_thousandthsShared_44 : decode b_Su_thousandthsShared 44 = .ok (.iload_n 3, 1) := by decide +kernel
theorem d_Su_thousandthsShared_45 : decode b_Su_thousandthsShared 45 = .ok (.invokevirtual 96, 3) := by decide +kernel
theorem d_Su_thousandthsShared_48 : decode b_Su_thousandthsShared 48 = .ok (.iinc 3 1, 3) := by decide +kernel
theorem d_Su_thousandthsShared_51 : decode b_Su_thousandthsShared 51 = .ok (.goto (-40), 3) := by decide +kernel
theorem d_Su_thousandthsShared_54 : decode b_Su_thousandthsShared 54 = .ok (.aload_n 0, 1) := by decide +kernel
theorem d_Su_thousandthsShared_55 : decode b_Su_thousandthsShared 55 = .ok (.iconst 1, 1) := by decide +kernel
theorem d_Su_thousandthsShared_56 : decode b_Su_thousandthsShared 56 = .ok (.sipush 1000, 3) := by decide +kernel
theorem d_Su_thousandthsShared_59 : decode b_Su_thousandthsShared 59 = .ok (.iconst 0, 1) := by decide +kernel
theorem d_Su_thousandthsShared_60 : decode b_Su_thousandthsShared 60 = .ok (.invokevirtual 100, 3) := by decide +kernel
theorem d_Su_thousandthsShared_63 : decode b_Su_thousandthsShared 63 = .ok (.ireturn, 1) := by decide +kernel
theorem d_Su_wayOfGreatest_0 : decode b_Su_wayOfGreatest 0 = .ok (.aload_n 0, 1) := by decide +kernel
theorem d_Su_wayOfGreatest_1 : decode b_Su_wayOfGreatest 1 = .ok (.getfield 42, 3) := by decide +kernel
theorem d_Su_wayOfGreatest_4 : decode b_Su_wayOfGreatest 4 = .ok (.iconst 0, 1) := by decide +kernel
theorem d_Su_wayOfGreatest_5 : decode b_Su_wayOfGreatest 5 = .ok (.invokevirtual 108, 3) := by decide +kernel
theorem d_Su_wayOfGreatest_8 : decode b_Su_wayOfGreatest 8 = .ok (.ifCond .eq 5, 3) := by decide +kernel
theorem d_Su_wayOfGreatest_11 : decode b_Su_wayOfGreatest 11 = .ok (.iconst (-1), 1) := by decide +kernel
theorem d_Su_wayOfGreatest_12 : decode b_Su_wayOfGreatest 12 = .ok (.ireturn, 1) := by decide +kernel
theorem d_Su_wayOfGreatest_13 : decode b_Su_wayOfGreatest 13 = .ok (.iconst 0, 1) := by decide +kernel
theorem d_Su_wayOfGreatest_14 : decode b_Su_wayOfGreatest 14 = .ok (.istore_n 1, 1) := by decide +kernel
theorem d_Su_wayOfGreatest_15 : decode b_Su_wayOfGreatest 15 = .ok (.iconst 1, 1) := by decide +kernel
theorem d_Su_wayOfGreatest_16 : decode b_Su_wayOfGreatest 16 = .ok (.istore_n 2, 1) := by decide +kernel
theorem d_Su_wayOfGreatest_17 : decode b_Su_wayOfGreatest 17 = .ok (.iload_n 2, 1) := by decide +kernel
theorem d_Su_wayOfGreatest_18 : decode b_Su_wayOfGreatest 18 = .ok (.aload_n 0, 1) := by decide +kernel
theorem d_Su_wayOfGreatest_19 : decode b_Su_wayOfGreatest 19 = .ok (.getfield 9, 3) := by decide +kernel
theorem d_Su_wayOfGreatest_22 : decode b_Su_wayOfGreatest 22 = .ok (.invokevirtual 70, 3) := by decide +kernel
theorem d_Su_wayOfGreatest_25 : decode b_Su_wayOfGreatest 25 = .ok (.if_icmp .ge 23, 3) := by decide +kernel
theorem d_Su_wayOfGreatest_28 : decode b_Su_wayOfGreatest 28 = .ok (.aload_n 0, 1) := by decide +kernel
theorem d_Su_wayOfGreatest_29 : decode b_Su_wayOfGreatest 29 = .ok (.getfield 39, 3) := by decide +kernel
theorem d_Su_wayOfGreatest_32 : decode b_Su_wayOfGreatest 32 = .ok (.iload_n 2, 1) := by decide +kernel
theorem d_Su_wayOfGreatest_33 : decode b_Su_wayOfGreatest 33 = .ok (.iload_n 1, 1) := by decide +kernel
theorem d_Su_wayOfGreatest_34 : decode b_Su_wayOfGreatest 34 = .ok (.invokevirtual 86, 3) := by decide +kernel
theorem d_Su_wayOfGreatest_37 : decode b_Su_wayOfGreatest 37 = .ok (.ifCond .le 5, 3) := by decide +kernel
theorem d_Su_wayOfGreatest_40 : decode b_Su_wayOfGreatest 40 = .ok (.iload_n 2, 1) := by decide +kernel
theorem d_Su_wayOfGreatest_41 : decode b_Su_wayOfGreatest 41 = .ok (.istore_n 1, 1) := by decide +kernel
theorem d_Su_wayOfGreatest_42 : decode b_Su_wayOfGreatest 42 = .ok (.iinc 2 1, 3) := by decide +kernel
theorem d_Su_wayOfGreatest_45 : decode b_Su_wayOfGreatest 45 = .ok (.goto (-28), 3) := by decide +kernel
theorem d_Su_wayOfGreatest_48 : decode b_Su_wayOfGreatest 48 = .ok (.iload_n 1, 1) := by decide +kernel
theorem d_Su_wayOfGreatest_49 : decode b_Su_wayOfGreatest 49 = .ok (.ireturn, 1) := by decide +kernel
theorem d_Su_rateOfGreatest_0 : decode b_Su_rateOfGreatest 0 = .ok (.iconst 0, 1) := by decide +kernel
theorem d_Su_rateOfGreatest_1 : decode b_Su_rateOfGreatest 1 = .ok (.istore_n 2, 1) := by decide +kernel
theorem d_Su_rateOfGreatest_2 : decode b_Su_rateOfGreatest 2 = .ok (.aload_n 0, 1) := by decide +kernel
theorem d_Su_rateOfGreatest_3 : decode b_Su_rateOfGreatest 3 = .ok (.iload_n 1, 1) := by decide +kernel
theorem d_Su_rateOfGreatest_4 : decode b_Su_rateOfGreatest 4 = .ok (.iconst 0, 1) := by decide +kernel
theorem d_Su_rateOfGreatest_5 : decode b_Su_rateOfGreatest 5 = .ok (.invokevirtual 79, 3) := by decide +kernel
theorem d_Su_rateOfGreatest_8 : decode b_Su_rateOfGreatest 8 = .ok (.aload_n 0, 1) := by decide +kernel
theorem d_Su_rateOfGreatest_9 : decode b_Su_rateOfGreatest 9 = .ok (.iconst 2, 1) := by decide +kernel
theorem d_Su_rateOfGreatest_10 : decode b_Su_rateOfGreatest 10 = .ok (.invokevirtual 83, 3) := by decide +kernel
theorem d_Su_rateOfGreatest_13 : decode b_Su_rateOfGreatest 13 = .ok (.iconst 1, 1) := by decide +kernel
theorem d_Su_rateOfGreatest_14 : decode b_Su_rateOfGreatest 14 = .ok (.istore_n 3, 1) := by decide +kernel
theorem d_Su_rateOfGreatest_15 : decode b_Su_rateOfGreatest 15 = .ok (.iload_n 3, 1) := by decide +kernel
theorem d_Su_rateOfGreatest_16 : decode b_Su_rateOfGreatest 16 = .ok (.bipush 8, 2) := by decide +kernel
theorem d_Su_rateOfGreatest_18 : decode b_Su_rateOfGreatest 18 = .ok (.if_icmp .gt 43, 3) := by decide +kernel
theorem d_Su_rateOfGreatest_21 : decode b_Su_rateOfGreatest 21 = .ok (.aload_n 0, 1) := by decide +kernel
theorem d_Su_rateOfGreatest_22 : decode b_Su_rateOfGreatest 22 = .ok (.iload_n 1, 1) := by decide +kernel
theorem d_Su_rateOfGreatest_23 : decode b_Su_rateOfGreatest 23 = .ok (.iload_n 3, 1) := by decide +kernel
theorem d_Su_rateOfGreatest_24 : decode b_Su_rateOfGreatest 24 = .ok (.invokevirtual 79, 3) := by decide +kernel
theorem d_Su_rateOfGreatest_27 : decode b_Su_rateOfGreatest 27 = .ok (.aload_n 0, 1) := by decide +kernel
theorem d_Su_rateOfGreatest_28 : decode b_Su_rateOfGreatest 28 = .ok (.iconst 1, 1) := by decide +kernel
theorem d_Su_rateOfGreatest_29 : decode b_Su_rateOfGreatest 29 = .ok (.invokevirtual 83, 3) := by decide +kernel
theorem d_Su_rateOfGreatest_32 : decode b_Su_rateOfGreatest 32 = .ok (.aload_n 0, 1) := by decide +kernel
theorem d_Su_rateOfGreatest_33 : decode b_Su_rateOfGreatest 33 = .ok (.getfield 42, 3) := by decide +kernel
theorem d_Su_rateOfGreatest_36 : decode b_Su_rateOfGreatest 36 = .ok (.iconst 1, 1) := by decide +kernel
theorem d_Su_rateOfGreatest_37 : decode b_Su_rateOfGreatest 37 = .ok (.iconst 2, 1) := by decide +kernel
theorem d_Su_rateOfGreatest_38 : decode b_Su_rateOfGreatest 38 = .ok (.invokevirtual 86, 3) := by decide +kernel
theorem d_Su_rateOfGreatest_41 : decode b_Su_rateOfGreatest 41 = .ok (.ifCond .le 14, 3) := by decide +kernel
theorem d_Su_rateOfGreatest_44 : decode b_Su_rateOfGreatest 44 = .ok (.aload_n 0, 1) := by decide +kernel
theorem d_Su_rateOfGreatest_45 : decode b_Su_rateOfGreatest 45 = .ok (.getfield 42, 3) := by decide +kernel
theorem d_Su_rateOfGreatest_48 : decode b_Su_rateOfGreatest 48 = .ok (.iconst 2, 1) := by decide +kernel
theorem d_Su_rateOfGreatest_49 : decode b_Su_rateOfGreatest 49 = .ok (.iconst 1, 1) := by decide +kernel
theorem d_Su_rateOfGreatest_50 : decode b_Su_rateOfGreatest 50 = .ok (.invokevirtual 90, 3) := by decide +kernel
theorem d_Su_rateOfGreatest_53 : decode b_Su_rateOfGreatest 53 = .ok (.iload_n 3, 1) := by decide +kernel
theorem d_Su_rateOfGreatest_54 : decode b_Su_rateOfGreatest 54 = .ok (.istore_n 2, 1) := by decide +kernel
theorem d_Su_rateOfGreatest_55 : decode b_Su_rateOfGreatest 55 = .ok (.iinc 3 1, 3) := by decide +kernel
theorem d_Su_rateOfGreatest_58 : decode b_Su_rateOfGreatest 58 = .ok (.goto (-43), 3) := by decide +kernel
theorem d_Su_rateOfGreatest_61 : decode b_Su_rateOfGreatest 61 = .ok (.iload_n 2, 1) := by decide +kernel
theorem d_Su_rateOfGreatest_62 : decode b_Su_rateOfGreatest 62 = .ok (.ireturn, 1) := by decide +kernel
