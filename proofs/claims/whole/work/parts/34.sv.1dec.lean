theorem d_Su_takeRates_0 : decode b_Su_takeRates 0 = .ok (.iconst 0, 1) := by decide +kernel
theorem d_Su_takeRates_1 : decode b_Su_takeRates 1 = .ok (.istore_n 1, 1) := by decide +kernel
theorem d_Su_takeRates_2 : decode b_Su_takeRates 2 = .ok (.iload_n 1, 1) := by decide +kernel
theorem d_Su_takeRates_3 : decode b_Su_takeRates 3 = .ok (.aload_n 0, 1) := by decide +kernel
theorem d_Su_takeRates_4 : decode b_Su_takeRates 4 = .ok (.getfield 15, 3) := by decide +kernel
theorem d_Su_takeRates_7 : decode b_Su_takeRates 7 = .ok (.invokevirtual 45, 3) := by decide +kernel
theorem d_Su_takeRates_10 : decode b_Su_takeRates 10 = .ok (.if_icmp .ge 24, 3) := by decide +kernel
theorem d_Su_takeRates_13 : decode b_Su_takeRates 13 = .ok (.aload_n 0, 1) := by decide +kernel
theorem d_Su_takeRates_14 : decode b_Su_takeRates 14 = .ok (.getfield 23, 3) := by decide +kernel
theorem d_Su_takeRates_17 : decode b_Su_takeRates 17 = .ok (.iload_n 1, 1) := by decide +kernel
theorem d_Su_takeRates_18 : decode b_Su_takeRates 18 = .ok (.aload_n 0, 1) := by decide +kernel
theorem d_Su_takeRates_19 : decode b_Su_takeRates 19 = .ok (.getfield 15, 3) := by decide +kernel
theorem d_Su_takeRates_22 : decode b_Su_takeRates 22 = .ok (.getfield 51, 3) := by decide +kernel
theorem d_Su_takeRates_25 : decode b_Su_takeRates 25 = .ok (.iload_n 1, 1) := by decide +kernel
theorem d_Su_takeRates_26 : decode b_Su_takeRates 26 = .ok (.iaload, 1) := by decide +kernel
theorem d_Su_takeRates_27 : decode b_Su_takeRates 27 = .ok (.iastore, 1) := by decide +kernel
theorem d_Su_takeRates_28 : decode b_Su_takeRates 28 = .ok (.iinc 1 1, 3) := by decide +kernel
theorem d_Su_takeRates_31 : decode b_Su_takeRates 31 = .ok (.goto (-29), 3) := by decide +kernel
theorem d_Su_takeRates_34 : decode b_Su_takeRates 34 = .ok (.return_, 1) := by decide +kernel
theorem d_Su_freeRates_0 : decode b_Su_freeRates 0 = .ok (.iconst 0, 1) := by decide +kernel
theorem d_Su_freeRates_1 : decode b_Su_freeRates 1 = .ok (.istore_n 1, 1) := by decide +kernel
theorem d_Su_freeRates_2 : decode b_Su_freeRates 2 = .ok (.iload_n 1, 1) := by decide +kernel
theorem d_Su_freeRates_3 : decode b_Su_freeRates 3 = .ok (.aload_n 0, 1) := by decide +kernel
theorem d_Su_freeRates_4 : decode b_Su_freeRates 4 = .ok (.getfield 15, 3) := by decide +kernel
theorem d_Su_freeRates_7 : decode b_Su_freeRates 7 = .ok (.invokevirtual 45, 3) := by decide +kernel
theorem d_Su_freeRates_10 : decode b_Su_freeRates 10 = .ok (.if_icmp .ge 17, 3) := by decide +kernel
theorem d_Su_freeRates_13 : decode b_Su_freeRates 13 = .ok (.aload_n 0, 1) := by decide +kernel
theorem d_Su_freeRates_14 : decode b_Su_freeRates 14 = .ok (.getfield 23, 3) := by decide +kernel
theorem d_Su_freeRates_17 : decode b_Su_freeRates 17 = .ok (.iload_n 1, 1) := by decide +kernel
theorem d_Su_freeRates_18 : decode b_Su_freeRates 18 = .ok (.bipush 8, 2) := by decide +kernel
theorem d_Su_freeRates_20 : decode b_Su_freeRates 20 = .ok (.iastore, 1) := by decide +kernel
theorem d_Su_freeRates_21 : decode b_Su_freeRates 21 = .ok (.iinc 1 1, 3) := by decide +kernel
theorem d_Su_freeRates_24 : decode b_Su_freeRates 24 = .ok (.goto (-22), 3) := by decide +kernel
theorem d_Su_freeRates_27 : decode b_Su_freeRates 27 = .ok (.return_, 1) := by decide +kernel
theorem d_Su_changeRate_0 : decode b_Su_changeRate 0 = .ok (.aload_n 0, 1) := by decide +kernel
theorem d_Su_changeRate_1 : decode b_Su_changeRate 1 = .ok (.getfield 23, 3) := by decide +kernel
theorem d_Su_changeRate_4 : decode b_Su_changeRate 4 = .ok (.iload_n 1, 1) := by decide +kernel
theorem d_Su_changeRate_5 : decode b_Su_changeRate 5 = .ok (.iload_n 2, 1) := by decide +kernel
theorem d_Su_changeRate_6 : decode b_Su_changeRate 6 = .ok (.iastore, 1) := by decide +kernel
theorem d_Su_changeRate_7 : decode b_Su_changeRate 7 = .ok (.return_, 1) := by decide +kernel
theorem d_Su_comeFromBefore_0 : decode b_Su_comeFromBefore 0 = .ok (.aload_n 0, 1) := by decide +kernel
theorem d_Su_comeFromBefore_1 : decode b_Su_comeFromBefore 1 = .ok (.aload_n 0, 1) := by decide +kernel
theorem d_Su_comeFromBefore_2 : decode b_Su_comeFromBefore 2 = .ok (.getfield 32, 3) := by decide +kernel
theorem d_Su_comeFromBefore_5 : decode b_Su_comeFromBefore 5 = .ok (.invokevirtual 115, 3) := by decide +kernel
theorem d_Su_comeFromBefore_8 : decode b_Su_comeFromBefore 8 = .ok (.iconst 0, 1) := by decide +kernel
theorem d_Su_comeFromBefore_9 : decode b_Su_comeFromBefore 9 = .ok (.istore_n 2, 1) := by decide +kernel
theorem d_Su_comeFromBefore_10 : decode b_Su_comeFromBefore 10 = .ok (.iload_n 2, 1) := by decide +kernel
theorem d_Su_comeFromBefore_11 : decode b_Su_comeFromBefore 11 = .ok (.iload_n 1, 1) := by decide +kernel
theorem d_Su_comeFromBefore_12 : decode b_Su_comeFromBefore 12 = .ok (.if_icmp .ge 27, 3) := by decide +kernel
theorem d_Su_comeFromBefore_15 : decode b_Su_comeFromBefore 15 = .ok (.aload_n 0, 1) := by decide +kernel
theorem d_Su_comeFromBefore_16 : decode b_Su_comeFromBefore 16 = .ok (.aload_n 0, 1) := by decide +kernel
theorem d_Su_comeFromBefore_17 : decode b_Su_comeFromBefore 17 = .ok (.getfield 32, 3) := by decide +kernel
theorem d_Su_comeFromBefore_20 : decode b_Su_comeFromBefore 20 = .ok (.iload_n 2, 1) := by decide +kernel
theorem d_Su_comeFromBefore_21 : decode b_Su_comeFromBefore 21 = .ok (.invokevirtual 59, 3) := by decide +kernel
theorem d_Su_comeFromBefore_24 : decode b_Su_comeFromBefore 24 = .ok (.aload_n 0, 1) := by decide +kernel
theorem d_Su_comeFromBefore_25 : decode b_Su_comeFromBefore 25 = .ok (.aload_n 0, 1) := by decide +kernel
theorem d_Su_comeFromBefore_26 : decode b_Su_comeFromBefore 26 = .ok (.getfield 32, 3) := by decide +kernel
theorem d_Su_comeFromBefore_29 : decode b_Su_comeFromBefore 29 = .ok (.iload_n 2, 1) := by decide +kernel
theorem d_Su_comeFromBefore_30 : decode b_Su_comeFromBefore 30 = .ok (.invokevirtual 119, 3) := by decide +kernel
theorem d_Su_comeFromBefore_33 : decode b_Su_comeFromBefore 33 = .ok (.iinc 2 1, 3) := by decide +kernel
theorem d_Su_comeFromBefore_36 : decode b_Su_comeFromBefore 36 = .ok (.goto (-26), 3) := by decide +kernel
theorem d_Su_comeFromBefore_39 : decode b_Su_comeFromBefore 39 = .ok (.return_, 1) := by decide +kernel
theorem d_Su_comeFromBehind_0 : decode b_Su_comeFromBehind 0 = .ok (.aload_n 0, 1) := by decide +kernel
theorem d_Su_comeFromBehind_1 : decode b_Su_comeFromBehind 1 = .ok (.aload_n 0, 1) := by decide +kernel
theorem d_Su_comeFromBehind_2 : decode b_Su_comeFromBehind 2 = .ok (.getfield 36, 3) := by decide +kernel
theorem d_Su_comeFromBehind_5 : decode b_Su_comeFromBehind 5 = .ok (.invokevirtual 115, 3) := by decide +kernel
theorem d_Su_comeFromBehind_8 : decode b_Su_comeFromBehind 8 = .ok (.aload_n 0, 1) := by decide +kernel
theorem d_Su_comeFromBehind_9 : decode b_Su_comeFromBehind 9 = .ok (.getfield 15, 3) := by decide +kernel
theorem d_Su_comeFromBehind_12 : decode b_Su_comeFromBehind 12 = .ok (.getfield 52, 3) := by decide +kernel
theorem d_Su_comeFromBehind_15 : decode b_Su_comeFromBehind 15 = .ok (.iconst 1, 1) := by decide +kernel
theorem d_Su_comeFromBehind_16 : decode b_Su_comeFromBehind 16 = .ok (.isub, 1) := by decide +kernel
theorem d_Su_comeFromBehind_17 : decode b_Su_comeFromBehind 17 = .ok (.istore_n 2, 1) := by decide +kernel
theorem d_Su_comeFromBehind_18 : decode b_Su_comeFromBehind 18 = .ok (.iload_n 2, 1) := by decide +kernel
theorem d_Su_comeFromBehind_19 : decode b_Su_comeFromBehind 19 = .ok (.iload_n 1, 1) := by decide +kernel
theorem d_Su_comeFromBehind_20 : decode b_Su_comeFromBehind 20 = .ok (.if_icmp .le 29, 3) := by decide +kernel
theorem d_Su_comeFromBehind_23 : decode b_Su_comeFromBehind 23 = .ok (.aload_n 0, 1) := by decide +kernel
theorem d_Su_comeFromBehind_24 : decode b_Su_comeFromBehind 24 = .ok (.aload_n 0, 1) := by decide +kernel
theorem d_Su_comeFromBehind_25 : decode b_Su_comeFromBehind 25 = .ok (.getfield 36, 3) := by decide +kernel
theorem d_Su_comeFromBehind_28 : decode b_Su_comeFromBehind 28 = .ok (.iload_n 2, 1) := by decide +kernel
theorem d_Su_comeFromBehind_29 : decode b_Su_comeFromBehind 29 = .ok (.invokevirtual 59, 3) := by decide +kernel
theorem d_Su_comeFromBehind_32 : decode b_Su_comeFromBehind 32 = .ok (.aload_n 0, 1) := by decide +kernel
theorem d_Su_comeFromBehind_33 : decode b_Su_comeFromBehind 33 = .ok (.aload_n 0, 1) := by decide +kernel
theorem d_Su_comeFromBehind_34 : decode b_Su_comeFromBehind 34 = .ok (.getfield 36, 3) := by decide +kernel
theorem d_Su_comeFromBehind_37 : decode b_Su_comeFromBehind 37 = .ok (.iload_n 2, 1) := by decide +kernel
theorem d_Su_comeFromBehind_38 : decode b_Su_comeFromBehind 38 = .ok (.iconst 1, 1) := by decide +kernel
theorem d_Su_comeFromBehind_39 : decode b_Su_comeFromBehind 39 = .ok (.isub, 1) := by decide +kernel
theorem d_Su_comeFromBehind_40 : decode b_Su_comeFromBehind 40 = .ok (.invokevirtual 119, 3) := by decide +kernel
theorem d_Su_comeFromBehind_43 : decode b_Su_comeFromBehind 43 = .ok (.iinc 2 (-1), 3) := by decide +kernel
theorem d_Su_comeFromBehind_46 : decode b_Su_comeFromBehind 46 = .ok (.goto (-28), 3) := by decide +kernel
theorem d_Su_comeFromBehind_49 : decode b_Su_comeFromBehind 49 = .ok (.return_, 1) := by decide +kernel
theorem d_Su_sumTo_0 : decode b_Su_sumTo 0 = .ok (.aload_n 0, 1) := by decide +kernel
theorem d_Su_sumTo_1 : decode b_Su_sumTo 1 = .ok (.getfield 15, 3) := by decide +kernel
theorem d_Su_sumTo_4 : decode b_Su_sumTo 4 = .ok (.getfield 52, 3) := by decide +kernel
theorem d_Su_sumTo_7 : decode b_Su_sumTo 7 = .ok (.iconst 1, 1) := by decide +kernel
theorem d_Su_sumTo_8 : decode b_Su_sumTo 8 = .ok (.isub, 1) := by decide +kernel
theorem d_Su_sumTo_9 : decode b_Su_sumTo 9 = .ok (.istore_n 2, 1) := by decide +kernel
theorem d_Su_sumTo_10 : decode b_Su_sumTo 10 = .ok (.aload_n 0, 1) := by decide +kernel
theorem d_Su_sumTo_11 : decode b_Su_sumTo 11 = .ok (.iload_n 2, 1) := by decide +kernel
theorem d_Su_sumTo_12 : decode b_Su_sumTo 12 = .ok (.invokevirtual 56, 3) := by decide +kernel
theorem d_Su_sumTo_15 : decode b_Su_sumTo 15 = .ok (.aload_n 0, 1) := by decide +kernel
theorem d_Su_sumTo_16 : decode b_Su_sumTo 16 = .ok (.aload_n 0, 1) := by decide +kernel
theorem d_Su_sumTo_17 : decode b_Su_sumTo 17 = .ok (.getfield 32, 3) := by decide +kernel
theorem d_Su_sumTo_20 : decode b_Su_sumTo 20 = .ok (.iload_n 2, 1) := by decide +kernel
theorem d_Su_sumTo_21 : decode b_Su_sumTo 21 = .ok (.invokevirtual 59, 3) := by decide +kernel
theorem d_Su_sumTo_24 : decode b_Su_sumTo 24 = .ok (.aload_n 0, 1) := by decide +kernel
theorem d_Su_sumTo_25 : decode b_Su_sumTo 25 = .ok (.iload_n 1, 1) := by decide +kernel
theorem d_Su_sumTo_26 : decode b_Su_sumTo 26 = .ok (.aload_n 0, 1) := by decide +kernel
theorem d_Su_sumTo_27 : decode b_Su_sumTo 27 = .ok (.getfield 32, 3) := by decide +kernel
theorem d_Su_sumTo_30 : decode b_Su_sumTo 30 = .ok (.invokevirtual 63, 3) := by decide +kernel
theorem d_Su_sumTo_33 : decode b_Su_sumTo 33 = .ok (.return_, 1) := by decide +kernel
theorem d_Su_split_0 : decode b_Su_split 0 = .ok (.aload_n 0, 1) := by decide +kernel
theorem d_Su_split_1 : decode b_Su_split 1 = .ok (.iload_n 1, 1) := by decide +kernel
theorem d_Su_split_2 : decode b_Su_split 2 = .ok (.invokevirtual 56, 3) := by decide +kernel
theorem d_Su_split_5 : decode b_Su_split 5 = .ok (.aload_n 0, 1) := by decide +kernel
theorem d_Su_split_6 : decode b_Su_split 6 = .ok (.iload_n 1, 1) := by decide +kernel
theorem d_Su_split_7 : decode b_Su_split 7 = .ok (.invokevirtual 67, 3) := by decide +kernel
theorem d_Su_split_10 : decode b_Su_split 10 = .ok (.iconst 0, 1) := by decide +kernel
theorem d_Su_split_11 : decode b_Su_split 11 = .ok (.istore_n 2, 1) := by decide +kernel
theorem d_Su_split_12 : decode b_Su_split 12 = .ok (.iload_n 2, 1) := by decide +kernel
theorem d_Su_split_13 : decode b_Su_split 13 = .ok (.aload_n 0, 1) := by decide +kernel
theorem d_Su_split_14 : decode b_Su_split 14 = .ok (.getfield 9, 3) := by decide +kernel
theorem d_Su_split_17 : decode b_Su_split 17 = .ok (.invokevirtual 70, 3) := by decide +kernel
theorem d_Su_split_20 : decode b_Su_split 20 = .ok (.if_icmp .ge 25, 3) := by decide +kernel
theorem d_Su_split_23 : decode b_Su_split 23 = .ok (.aload_n 0, 1) := by decide +kernel
theorem d_Su_split_24 : decode b_Su_split 24 = .ok (.getfield 39, 3) := by decide +kernel
theorem d_Su_split_27 : decode b_Su_split 27 = .ok (.iload_n 2, 1) := by decide +kernel
theorem d_Su_split_28 : decode b_Su_split 28 = .ok (.aload_n 0, 1) := by decide +kernel
theorem d_Su_split_29 : decode b_Su_split 29 = .ok (.getfield 32, 3) := by decide +kernel
theorem d_Su_split_32 : decode b_Su_split 32 = .ok (.aload_n 0, 1) := by decide +kernel
theorem d_Su_split_33 : decode b_Su_split 33 = .ok (.getfield 36, 3) := by decide +kernel
theorem d_Su_split_36 : decode b_Su_split 36 = .ok (.invokevirtual 75, 3) := by decide +kernel
theorem d_Su_split_39 : decode b_Su_split 39 = .ok (.iinc 2 1, 3) := by decide +kernel
theorem d_Su_split_42 : decode b_Su_split 42 = .ok (.goto (-30), 3) := by decide +kernel
theorem d_Su_split_45 : decode b_Su_split 45 = .ok (.aload_n 0, 1) := by decide +kernel
theorem d_Su_split_46 : decode b_Su_split 46 = .ok (.aload_n 0, 1) := by decide +kernel
theorem d_Su_split_47 : decode b_Su_split 47 = .ok (.getfield 39, 3) := by decide +kernel
theorem d_Su_split_50 : decode b_Su_split 50 = .ok (.iload_n 1, 1) := by decide +kernel
theorem d_Su_split_51 : decode b_Su_split 51 = .ok (.invokevirtual 59, 3) := by decide +kernel
theorem d_Su_split_54 : decode b_Su_split 54 = .ok (.aload_n 0, 1) := by decide +kernel
theorem d_Su_split_55 : decode b_Su_split 55 = .ok (.iconst 0, 1) := by decide +kernel
theorem d_Su_split_56 : decode b_Su_split 56 = .ok (.aload_n 0, 1) := by decide +kernel
theorem d_Su_split_57 : decode b_Su_split 57 = .ok (.getfield 39, 3) := by decide +kernel
theorem d_Su_split_60 : decode b_Su_split 60 = .ok (.invokevirtual 63, 3) := by decide +kernel
theorem d_Su_split_63 : decode b_Su_split 63 = .ok (.return_, 1) := by decide +kernel
