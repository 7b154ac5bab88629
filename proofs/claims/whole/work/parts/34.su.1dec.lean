theorem d_Su_fillWithOnes_0 : decode b_Su_fillWithOnes 0 = .ok (.iconst 0, 1) := by decide +kernel
theorem d_Su_fillWithOnes_1 : decode b_Su_fillWithOnes 1 = .ok (.istore_n 2, 1) := by decide +kernel
theorem d_Su_fillWithOnes_2 : decode b_Su_fillWithOnes 2 = .ok (.iload_n 2, 1) := by decide +kernel
theorem d_Su_fillWithOnes_3 : decode b_Su_fillWithOnes 3 = .ok (.aload_n 0, 1) := by decide +kernel
theorem d_Su_fillWithOnes_4 : decode b_Su_fillWithOnes 4 = .ok (.getfield 9, 3) := by decide +kernel
theorem d_Su_fillWithOnes_7 : decode b_Su_fillWithOnes 7 = .ok (.invokevirtual 70, 3) := by decide +kernel
theorem d_Su_fillWithOnes_10 : decode b_Su_fillWithOnes 10 = .ok (.if_icmp .ge 15, 3) := by decide +kernel
theorem d_Su_fillWithOnes_13 : decode b_Su_fillWithOnes 13 = .ok (.aload_n 1, 1) := by decide +kernel
theorem d_Su_fillWithOnes_14 : decode b_Su_fillWithOnes 14 = .ok (.iload_n 2, 1) := by decide +kernel
theorem d_Su_fillWithOnes_15 : decode b_Su_fillWithOnes 15 = .ok (.iconst 1, 1) := by decide +kernel
theorem d_Su_fillWithOnes_16 : decode b_Su_fillWithOnes 16 = .ok (.invokevirtual 93, 3) := by decide +kernel
theorem d_Su_fillWithOnes_19 : decode b_Su_fillWithOnes 19 = .ok (.iinc 2 1, 3) := by decide +kernel
theorem d_Su_fillWithOnes_22 : decode b_Su_fillWithOnes 22 = .ok (.goto (-20), 3) := by decide +kernel
theorem d_Su_fillWithOnes_25 : decode b_Su_fillWithOnes 25 = .ok (.return_, 1) := by decide +kernel
theorem d_Su_multiplyByFits_0 : decode b_Su_multiplyByFits 0 = .ok (.iconst 0, 1) := by decide +kernel
theorem d_Su_multiplyByFits_1 : decode b_Su_multiplyByFits 1 = .ok (.istore_n 3, 1) := by decide +kernel
theorem d_Su_multiplyByFits_2 : decode b_Su_multiplyByFits 2 = .ok (.iload_n 3, 1) := by decide +kernel
theorem d_Su_multiplyByFits_3 : decode b_Su_multiplyByFits 3 = .ok (.aload_n 0, 1) := by decide +kernel
theorem d_Su_multiplyByFits_4 : decode b_Su_multiplyByFits 4 = .ok (.getfield 9, 3) := by decide +kernel
theorem d_Su_multiplyByFits_7 : decode b_Su_multiplyByFits 7 = .ok (.invokevirtual 70, 3) := by decide +kernel
theorem d_Su_multiplyByFits_10 : decode b_Su_multiplyByFits 10 = .ok (.if_icmp .ge 23, 3) := by decide +kernel
theorem d_Su_multiplyByFits_13 : decode b_Su_multiplyByFits 13 = .ok (.aload_n 1, 1) := by decide +kernel
theorem d_Su_multiplyByFits_14 : decode b_Su_multiplyByFits 14 = .ok (.iload_n 3, 1) := by decide +kernel
theorem d_Su_multiplyByFits_15 : decode b_Su_multiplyByFits 15 = .ok (.aload_n 0, 1) := by decide +kernel
theorem d_Su_multiplyByFits_16 : decode b_Su_multiplyByFits 16 = .ok (.getfield 19, 3) := by decide +kernel
theorem d_Su_multiplyByFits_19 : decode b_Su_multiplyByFits 19 = .ok (.iload_n 2, 1) := by decide +kernel
theorem d_Su_multiplyByFits_20 : decode b_Su_multiplyByFits 20 = .ok (.iload_n 3, 1) := by decide +kernel
theorem d_Su_multiplyByFits_21 : decode b_Su_multiplyByFits 21 = .ok (.invokevirtual 122, 3) := by decide +kernel
theorem d_Su_multiplyByFits_24 : decode b_Su_multiplyByFits 24 = .ok (.invokevirtual 112, 3) := by decide +kernel
theorem d_Su_multiplyByFits_27 : decode b_Su_multiplyByFits 27 = .ok (.iinc 3 1, 3) := by decide +kernel
theorem d_Su_multiplyByFits_30 : decode b_Su_multiplyByFits 30 = .ok (.goto (-28), 3) := by decide +kernel
theorem d_Su_multiplyByFits_33 : decode b_Su_multiplyByFits 33 = .ok (.return_, 1) := by decide +kernel
theorem d_Su_crossGap_0 : decode b_Su_crossGap 0 = .ok (.iconst 0, 1) := by decide +kernel
theorem d_Su_crossGap_1 : decode b_Su_crossGap 1 = .ok (.istore_n 3, 1) := by decide +kernel
theorem d_Su_crossGap_2 : decode b_Su_crossGap 2 = .ok (.iload_n 3, 1) := by decide +kernel
theorem d_Su_crossGap_3 : decode b_Su_crossGap 3 = .ok (.aload_n 0, 1) := by decide +kernel
theorem d_Su_crossGap_4 : decode b_Su_crossGap 4 = .ok (.getfield 9, 3) := by decide +kernel
theorem d_Su_crossGap_7 : decode b_Su_crossGap 7 = .ok (.invokevirtual 127, 3) := by decide +kernel
theorem d_Su_crossGap_10 : decode b_Su_crossGap 10 = .ok (.if_icmp .ge 60, 3) := by decide +kernel
theorem d_Su_crossGap_13 : decode b_Su_crossGap 13 = .ok (.iconst 1, 1) := by decide +kernel
theorem d_Su_crossGap_14 : decode b_Su_crossGap 14 = .ok (.iload_n 3, 1) := by decide +kernel
theorem d_Su_crossGap_15 : decode b_Su_crossGap 15 = .ok (.ishl, 1) := by decide +kernel
theorem d_Su_crossGap_16 : decode b_Su_crossGap 16 = .ok (.istore 4, 2) := by decide +kernel
theorem d_Su_crossGap_18 : decode b_Su_crossGap 18 = .ok (.iconst 0, 1) := by decide +kernel
theorem d_Su_crossGap_19 : decode b_Su_crossGap 19 = .ok (.istore 5, 2) := by decide +kernel
theorem d_Su_crossGap_21 : decode b_Su_crossGap 21 = .ok (.iload 5, 2) := by decide +kernel
theorem d_Su_crossGap_23 : decode b_Su_crossGap 23 = .ok (.aload_n 0, 1) := by decide +kernel
theorem d_Su_crossGap_24 : decode b_Su_crossGap 24 = .ok (.getfield 9, 3) := by decide +kernel
theorem d_Su_crossGap_27 : decode b_Su_crossGap 27 = .ok (.invokevirtual 70, 3) := by decide +kernel
theorem d_Su_crossGap_30 : decode b_Su_crossGap 30 = .ok (.if_icmp .ge 34, 3) := by decide +kernel
theorem d_Su_crossGap_33 : decode b_Su_crossGap 33 = .ok (.iload 5, 2) := by decide +kernel
theorem d_Su_crossGap_35 : decode b_Su_crossGap 35 = .ok (.iload 4, 2) := by decide +kernel
theorem d_Su_crossGap_37 : decode b_Su_crossGap 37 = .ok (.iand, 1) := by decide +kernel
theorem d_Su_crossGap_38 : decode b_Su_crossGap 38 = .ok (.ifCond .ne 20, 3) := by decide +kernel
theorem d_Su_crossGap_41 : decode b_Su_crossGap 41 = .ok (.aload_n 1, 1) := by decide +kernel
theorem d_Su_crossGap_42 : decode b_Su_crossGap 42 = .ok (.iload 5, 2) := by decide +kernel
theorem d_Su_crossGap_44 : decode b_Su_crossGap 44 = .ok (.iload 5, 2) := by decide +kernel
theorem d_Su_crossGap_46 : decode b_Su_crossGap 46 = .ok (.iload 4, 2) := by decide +kernel
theorem d_Su_crossGap_48 : decode b_Su_crossGap 48 = .ok (.ior, 1) := by decide +kernel
theorem d_Su_crossGap_49 : decode b_Su_crossGap 49 = .ok (.aload_n 0, 1) := by decide +kernel
theorem d_Su_crossGap_50 : decode b_Su_crossGap 50 = .ok (.getfield 23, 3) := by decide +kernel
theorem d_Su_crossGap_53 : decode b_Su_crossGap 53 = .ok (.iload_n 2, 1) := by decide +kernel
theorem d_Su_crossGap_54 : decode b_Su_crossGap 54 = .ok (.iaload, 1) := by decide +kernel
theorem d_Su_crossGap_55 : decode b_Su_crossGap 55 = .ok (.invokevirtual 130, 3) := by decide +kernel
theorem d_Su_crossGap_58 : decode b_Su_crossGap 58 = .ok (.iinc 5 1, 3) := by decide +kernel
theorem d_Su_crossGap_61 : decode b_Su_crossGap 61 = .ok (.goto (-40), 3) := by decide +kernel
theorem d_Su_crossGap_64 : decode b_Su_crossGap 64 = .ok (.iinc 3 1, 3) := by decide +kernel
theorem d_Su_crossGap_67 : decode b_Su_crossGap 67 = .ok (.goto (-65), 3) := by decide +kernel
theorem d_Su_crossGap_70 : decode b_Su_crossGap 70 = .ok (.return_, 1) := by decide +kernel
theorem d_Su_addUp_0 : decode b_Su_addUp 0 = .ok (.aload_n 0, 1) := by decide +kernel
theorem d_Su_addUp_1 : decode b_Su_addUp 1 = .ok (.getfield 42, 3) := by decide +kernel
theorem d_Su_addUp_4 : decode b_Su_addUp 4 = .ok (.iload_n 1, 1) := by decide +kernel
theorem d_Su_addUp_5 : decode b_Su_addUp 5 = .ok (.iconst 0, 1) := by decide +kernel
theorem d_Su_addUp_6 : decode b_Su_addUp 6 = .ok (.invokevirtual 93, 3) := by decide +kernel
theorem d_Su_addUp_9 : decode b_Su_addUp 9 = .ok (.iconst 0, 1) := by decide +kernel
theorem d_Su_addUp_10 : decode b_Su_addUp 10 = .ok (.istore_n 3, 1) := by decide +kernel
theorem d_Su_addUp_11 : decode b_Su_addUp 11 = .ok (.iload_n 3, 1) := by decide +kernel
theorem d_Su_addUp_12 : decode b_Su_addUp 12 = .ok (.aload_n 0, 1) := by decide +kernel
theorem d_Su_addUp_13 : decode b_Su_addUp 13 = .ok (.getfield 9, 3) := by decide +kernel
theorem d_Su_addUp_16 : decode b_Su_addUp 16 = .ok (.invokevirtual 70, 3) := by decide +kernel
theorem d_Su_addUp_19 : decode b_Su_addUp 19 = .ok (.if_icmp .ge 19, 3) := by decide +kernel
theorem d_Su_addUp_22 : decode b_Su_addUp 22 = .ok (.aload_n 0, 1) := by decide +kernel
theorem d_Su_addUp_23 : decode b_Su_addUp 23 = .ok (.getfield 42, 3) := by decide +kernel
theorem d_Su_addUp_26 : decode b_Su_addUp 26 = .ok (.iload_n 1, 1) := by decide +kernel
theorem d_Su_addUp_27 : decode b_Su_addUp 27 = .ok (.aload_n 2, 1) := by decide +kernel
theorem d_Su_addUp_28 : decode b_Su_addUp 28 = .ok (.iload_n 3, 1) := by decide +kernel
theorem d_Su_addUp_29 : decode b_Su_addUp 29 = .ok (.invokevirtual 96, 3) := by decide +kernel
theorem d_Su_addUp_32 : decode b_Su_addUp 32 = .ok (.iinc 3 1, 3) := by decide +kernel
theorem d_Su_addUp_35 : decode b_Su_addUp 35 = .ok (.goto (-24), 3) := by decide +kernel
theorem d_Su_addUp_38 : decode b_Su_addUp 38 = .ok (.return_, 1) := by decide +kernel
