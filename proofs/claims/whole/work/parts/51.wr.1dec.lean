theorem d_Am_write_0 : decode b_Am_write 0 = .ok (.iconst 0, 1) := by decide +kernel
theorem d_Am_write_1 : decode b_Am_write 1 = .ok (.istore_n 3, 1) := by decide +kernel
theorem d_Am_write_2 : decode b_Am_write 2 = .ok (.bipush 53, 2) := by decide +kernel
theorem d_Am_write_4 : decode b_Am_write 4 = .ok (.istore 4, 2) := by decide +kernel
theorem d_Am_write_6 : decode b_Am_write 6 = .ok (.iload 4, 2) := by decide +kernel
theorem d_Am_write_8 : decode b_Am_write 8 = .ok (.ifCond .lt 72, 3) := by decide +kernel
theorem d_Am_write_11 : decode b_Am_write 11 = .ok (.aload_n 0, 1) := by decide +kernel
theorem d_Am_write_12 : decode b_Am_write 12 = .ok (.getfield 11, 3) := by decide +kernel
theorem d_Am_write_15 : decode b_Am_write 15 = .ok (.iload_n 1, 1) := by decide +kernel
theorem d_Am_write_16 : decode b_Am_write 16 = .ok (.bipush 6, 2) := by decide +kernel
theorem d_Am_write_18 : decode b_Am_write 18 = .ok (.imul, 1) := by decide +kernel
theorem d_Am_write_19 : decode b_Am_write 19 = .ok (.iload 4, 2) := by decide +kernel
theorem d_Am_write_21 : decode b_Am_write 21 = .ok (.bipush 9, 2) := by decide +kernel
theorem d_Am_write_23 : decode b_Am_write 23 = .ok (.idiv, 1) := by decide +kernel
theorem d_Am_write_24 : decode b_Am_write 24 = .ok (.iadd, 1) := by decide +kernel
theorem d_Am_write_25 : decode b_Am_write 25 = .ok (.laload, 1) := by decide +kernel
theorem d_Am_write_26 : decode b_Am_write 26 = .ok (.lstore 5, 2) := by decide +kernel
theorem d_Am_write_28 : decode b_Am_write 28 = .ok (.lload 5, 2) := by decide +kernel
theorem d_Am_write_30 : decode b_Am_write 30 = .ok (.getstatic 17, 3) := by decide +kernel
theorem d_Am_write_33 : decode b_Am_write 33 = .ok (.iload 4, 2) := by decide +kernel
theorem d_Am_write_35 : decode b_Am_write 35 = .ok (.bipush 9, 2) := by decide +kernel
theorem d_Am_write_37 : decode b_Am_write 37 = .ok (.irem, 1) := by decide +kernel
theorem d_Am_write_38 : decode b_Am_write 38 = .ok (.iaload, 1) := by decide +kernel
theorem d_Am_write_39 : decode b_Am_write 39 = .ok (.i2l, 1) := by decide +kernel
theorem d_Am_write_40 : decode b_Am_write 40 = .ok (.ldiv, 1) := by decide +kernel
theorem d_Am_write_41 : decode b_Am_write 41 = .ok (.ldc2_w 21, 3) := by decide +kernel
theorem d_Am_write_44 : decode b_Am_write 44 = .ok (.lrem, 1) := by decide +kernel
theorem d_Am_write_45 : decode b_Am_write 45 = .ok (.l2i, 1) := by decide +kernel
theorem d_Am_write_46 : decode b_Am_write 46 = .ok (.istore 7, 2) := by decide +kernel
theorem d_Am_write_48 : decode b_Am_write 48 = .ok (.iload 7, 2) := by decide +kernel
theorem d_Am_write_50 : decode b_Am_write 50 = .ok (.ifCond .ne 12, 3) := by decide +kernel
theorem d_Am_write_53 : decode b_Am_write 53 = .ok (.iload_n 3, 1) := by decide +kernel
theorem d_Am_write_54 : decode b_Am_write 54 = .ok (.ifCond .gt 8, 3) := by decide +kernel
theorem d_Am_write_57 : decode b_Am_write 57 = .ok (.iload 4, 2) := by decide +kernel
theorem d_Am_write_59 : decode b_Am_write 59 = .ok (.ifCond .ne 15, 3) := by decide +kernel
theorem d_Am_write_62 : decode b_Am_write 62 = .ok (.aload_n 2, 1) := by decide +kernel
theorem d_Am_write_63 : decode b_Am_write 63 = .ok (.iload_n 3, 1) := by decide +kernel
theorem d_Am_write_64 : decode b_Am_write 64 = .ok (.bipush 48, 2) := by decide +kernel
theorem d_Am_write_66 : decode b_Am_write 66 = .ok (.iload 7, 2) := by decide +kernel
theorem d_Am_write_68 : decode b_Am_write 68 = .ok (.iadd, 1) := by decide +kernel
theorem d_Am_write_69 : decode b_Am_write 69 = .ok (.i2c, 1) := by decide +kernel
theorem d_Am_write_70 : decode b_Am_write 70 = .ok (.castore, 1) := by decide +kernel
theorem d_Am_write_71 : decode b_Am_write 71 = .ok (.iinc 3 1, 3) := by decide +kernel
theorem d_Am_write_74 : decode b_Am_write 74 = .ok (.iinc 4 (-1), 3) := by decide +kernel
theorem d_Am_write_77 : decode b_Am_write 77 = .ok (.goto (-71), 3) := by decide +kernel
theorem d_Am_write_80 : decode b_Am_write 80 = .ok (.iload_n 3, 1) := by decide +kernel
theorem d_Am_write_81 : decode b_Am_write 81 = .ok (.ireturn, 1) := by decide +kernel
