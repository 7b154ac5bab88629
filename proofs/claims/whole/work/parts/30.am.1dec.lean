theorem d_Am_set_0 : decode b_Am_set 0 = .ok (.iload_n 1, 1) := by decide +kernel
theorem d_Am_set_1 : decode b_Am_set 1 = .ok (.bipush 6, 2) := by decide +kernel
theorem d_Am_set_3 : decode b_Am_set 3 = .ok (.imul, 1) := by decide +kernel
theorem d_Am_set_4 : decode b_Am_set 4 = .ok (.istore_n 3, 1) := by decide +kernel
theorem d_Am_set_5 : decode b_Am_set 5 = .ok (.aload_n 0, 1) := by decide +kernel
theorem d_Am_set_6 : decode b_Am_set 6 = .ok (.getfield 11, 3) := by decide +kernel
theorem d_Am_set_9 : decode b_Am_set 9 = .ok (.iload_n 3, 1) := by decide +kernel
theorem d_Am_set_10 : decode b_Am_set 10 = .ok (.iload_n 2, 1) := by decide +kernel
theorem d_Am_set_11 : decode b_Am_set 11 = .ok (.i2l, 1) := by decide +kernel
theorem d_Am_set_12 : decode b_Am_set 12 = .ok (.lastore, 1) := by decide +kernel
theorem d_Am_set_13 : decode b_Am_set 13 = .ok (.iconst 1, 1) := by decide +kernel
theorem d_Am_set_14 : decode b_Am_set 14 = .ok (.istore 4, 2) := by decide +kernel
theorem d_Am_set_16 : decode b_Am_set 16 = .ok (.iload 4, 2) := by decide +kernel
theorem d_Am_set_18 : decode b_Am_set 18 = .ok (.bipush 6, 2) := by decide +kernel
theorem d_Am_set_20 : decode b_Am_set 20 = .ok (.if_icmp .ge 19, 3) := by decide +kernel
theorem d_Am_set_23 : decode b_Am_set 23 = .ok (.aload_n 0, 1) := by decide +kernel
theorem d_Am_set_24 : decode b_Am_set 24 = .ok (.getfield 11, 3) := by decide +kernel
theorem d_Am_set_27 : decode b_Am_set 27 = .ok (.iload_n 3, 1) := by decide +kernel
theorem d_Am_set_28 : decode b_Am_set 28 = .ok (.iload 4, 2) := by decide +kernel
theorem d_Am_set_30 : decode b_Am_set 30 = .ok (.iadd, 1) := by decide +kernel
theorem d_Am_set_31 : decode b_Am_set 31 = .ok (.lconst 0, 1) := by decide +kernel
theorem d_Am_set_32 : decode b_Am_set 32 = .ok (.lastore, 1) := by decide +kernel
theorem d_Am_set_33 : decode b_Am_set 33 = .ok (.iinc 4 1, 3) := by decide +kernel
theorem d_Am_set_36 : decode b_Am_set 36 = .ok (.goto (-20), 3) := by decide +kernel
theorem d_Am_set_39 : decode b_Am_set 39 = .ok (.return_, 1) := by decide +kernel
theorem d_Am_copy_0 : decode b_Am_copy 0 = .ok (.iconst 0, 1) := by decide +kernel
theorem d_Am_copy_1 : decode b_Am_copy 1 = .ok (.istore_n 3, 1) := by decide +kernel
theorem d_Am_copy_2 : decode b_Am_copy 2 = .ok (.iload_n 3, 1) := by decide +kernel
theorem d_Am_copy_3 : decode b_Am_copy 3 = .ok (.bipush 6, 2) := by decide +kernel
theorem d_Am_copy_5 : decode b_Am_copy 5 = .ok (.if_icmp .ge 31, 3) := by decide +kernel
theorem d_Am_copy_8 : decode b_Am_copy 8 = .ok (.aload_n 0, 1) := by decide +kernel
theorem d_Am_copy_9 : decode b_Am_copy 9 = .ok (.getfield 11, 3) := by decide +kernel
theorem d_Am_copy_12 : decode b_Am_copy 12 = .ok (.iload_n 1, 1) := by decide +kernel
theorem d_Am_copy_13 : decode b_Am_copy 13 = .ok (.bipush 6, 2) := by decide +kernel
theorem d_Am_copy_15 : decode b_Am_copy 15 = .ok (.imul, 1) := by decide +kernel
theorem d_Am_copy_16 : decode b_Am_copy 16 = .ok (.iload_n 3, 1) := by decide +kernel
theorem d_Am_copy_17 : decode b_Am_copy 17 = .ok (.iadd, 1) := by decide +kernel
theorem d_Am_copy_18 : decode b_Am_copy 18 = .ok (.aload_n 0, 1) := by decide +kernel
theorem d_Am_copy_19 : decode b_Am_copy 19 = .ok (.getfield 11, 3) := by decide +kernel
theorem d_Am_copy_22 : decode b_Am_copy 22 = .ok (.iload_n 2, 1) := by decide +kernel
theorem d_Am_copy_23 : decode b_Am_copy 23 = .ok (.bipush 6, 2) := by decide +kernel
theorem d_Am_copy_25 : decode b_Am_copy 25 = .ok (.imul, 1) := by decide +kernel
theorem d_Am_copy_26 : decode b_Am_copy 26 = .ok (.iload_n 3, 1) := by decide +kernel
theorem d_Am_copy_27 : decode b_Am_copy 27 = .ok (.iadd, 1) := by decide +kernel
theorem d_Am_copy_28 : decode b_Am_copy 28 = .ok (.laload, 1) := by decide +kernel
theorem d_Am_copy_29 : decode b_Am_copy 29 = .ok (.lastore, 1) := by decide +kernel
theorem d_Am_copy_30 : decode b_Am_copy 30 = .ok (.iinc 3 1, 3) := by decide +kernel
theorem d_Am_copy_33 : decode b_Am_copy 33 = .ok (.goto (-31), 3) := by decide +kernel
theorem d_Am_copy_36 : decode b_Am_copy 36 = .ok (.return_, 1) := by decide +kernel
theorem d_Am_add_0 : decode b_Am_add 0 = .ok (.lconst 0, 1) := by decide +kernel
theorem d_Am_add_1 : decode b_Am_add 1 = .ok (.lstore 4, 2) := by decide +kernel
theorem d_Am_add_3 : decode b_Am_add 3 = .ok (.iconst 0, 1) := by decide +kernel
theorem d_Am_add_4 : decode b_Am_add 4 = .ok (.istore 6, 2) := by decide +kernel
theorem d_Am_add_6 : decode b_Am_add 6 = .ok (.iload 6, 2) := by decide +kernel
theorem d_Am_add_8 : decode b_Am_add 8 = .ok (.bipush 6, 2) := by decide +kernel
theorem d_Am_add_10 : decode b_Am_add 10 = .ok (.if_icmp .ge 65, 3) := by decide +kernel
theorem d_Am_add_13 : decode b_Am_add 13 = .ok (.aload_n 0, 1) := by decide +kernel
theorem d_Am_add_14 : decode b_Am_add 14 = .ok (.getfield 11, 3) := by decide +kernel
theorem d_Am_add_17 : decode b_Am_add 17 = .ok (.iload_n 1, 1) := by decide +kernel
theorem d_Am_add_18 : decode b_Am_add 18 = .ok (.bipush 6, 2) := by decide +kernel
theorem d_Am_add_20 : decode b_Am_add 20 = .ok (.imul, 1) := by decide +kernel
theorem d_Am_add_21 : decode b_Am_add 21 = .ok (.iload 6, 2) := by decide +kernel
theorem d_Am_add_23 : decode b_Am_add 23 = .ok (.iadd, 1) := by decide +kernel
theorem d_Am_add_24 : decode b_Am_add 24 = .ok (.laload, 1) := by decide +kernel
theorem d_Am_add_25 : decode b_Am_add 25 = .ok (.aload_n 2, 1) := by decide +kernel
theorem d_Am_add_26 : decode b_Am_add 26 = .ok (.getfield 11, 3) := by decide +kernel
theorem d_Am_add_29 : decode b_Am_add 29 = .ok (.iload_n 3, 1) := by decide +kernel
theorem d_Am_add_30 : decode b_Am_add 30 = .ok (.bipush 6, 2) := by decide +kernel
theorem d_Am_add_32 : decode b_Am_add 32 = .ok (.imul, 1) := by decide +kernel
theorem d_Am_add_33 : decode b_Am_add 33 = .ok (.iload 6, 2) := by decide +kernel
theorem d_Am_add_35 : decode b_Am_add 35 = .ok (.iadd, 1) := by decide +kernel
theorem d_Am_add_36 : decode b_Am_add 36 = .ok (.laload, 1) := by decide +kernel
theorem d_Am_add_37 : decode b_Am_add 37 = .ok (.ladd, 1) := by decide +kernel
theorem d_Am_add_38 : decode b_Am_add 38 = .ok (.lload 4, 2) := by decide +kernel
theorem d_Am_add_40 : decode b_Am_add 40 = .ok (.ladd, 1) := by decide +kernel
theorem d_Am_add_41 : decode b_Am_add 41 = .ok (.lstore 7, 2) := by decide +kernel
theorem d_Am_add_43 : decode b_Am_add 43 = .ok (.aload_n 0, 1) := by decide +kernel
theorem d_Am_add_44 : decode b_Am_add 44 = .ok (.getfield 11, 3) := by decide +kernel
theorem d_Am_add_47 : decode b_Am_add 47 = .ok (.iload_n 1, 1) := by decide +kernel
theorem d_Am_add_48 : decode b_Am_add 48 = .ok (.bipush 6, 2) := by decide +kernel
theorem d_Am_add_50 : decode b_Am_add 50 = .ok (.imul, 1) := by decide +kernel
theorem d_Am_add_51 : decode b_Am_add 51 = .ok (.iload 6, 2) := by decide +kernel
theorem d_Am_add_53 : decode b_Am_add 53 = .ok (.iadd, 1) := by decide +kernel
theorem d_Am_add_54 : decode b_Am_add 54 = .ok (.lload 7, 2) := by decide +kernel
theorem d_Am_add_56 : decode b_Am_add 56 = .ok (.ldc2_w 15, 3) := by decide +kernel
theorem d_Am_add_59 : decode b_Am_add 59 = .ok (.lrem, 1) := by decide +kernel
theorem d_Am_add_60 : decode b_Am_add 60 = .ok (.lastore, 1) := by decide +kernel
theorem d_Am_add_61 : decode b_Am_add 61 = .ok (.lload 7, 2) := by decide +kernel
theorem d_Am_add_63 : decode b_Am_add 63 = .ok (.ldc2_w 15, 3) := by decide +kernel
theorem d_Am_add_66 : decode b_Am_add 66 = .ok (.ldiv, 1) := by decide +kernel
theorem d_Am_add_67 : decode b_Am_add 67 = .ok (.lstore 4, 2) := by decide +kernel
theorem d_Am_add_69 : decode b_Am_add 69 = .ok (.iinc 6 1, 3) := by decide +kernel
theorem d_Am_add_72 : decode b_Am_add 72 = .ok (.goto (-66), 3) := by decide +kernel
theorem d_Am_add_75 : decode b_Am_add 75 = .ok (.return_, 1) := by decide +kernel
theorem d_Am_multiply_0 : decode b_Am_multiply 0 = .ok (.iload_n 1, 1) := by decide +kernel
theorem d_Am_multiply_1 : decode b_Am_multiply 1 = .ok (.bipush 6, 2) := by decide +kernel
theorem d_Am_multiply_3 : decode b_Am_multiply 3 = .ok (.imul, 1) := by decide +kernel
theorem d_Am_multiply_4 : decode b_Am_multiply 4 = .ok (.istore_n 3, 1) := by decide +kernel
theorem d_Am_multiply_5 : decode b_Am_multiply 5 = .ok (.lconst 0, 1) := by decide +kernel
theorem d_Am_multiply_6 : decode b_Am_multiply 6 = .ok (.lstore 4, 2) := by decide +kernel
theorem d_Am_multiply_8 : decode b_Am_multiply 8 = .ok (.iconst 0, 1) := by decide +kernel
theorem d_Am_multiply_9 : decode b_Am_multiply 9 = .ok (.istore 6, 2) := by decide +kernel
theorem d_Am_multiply_11 : decode b_Am_multiply 11 = .ok (.iload 6, 2) := by decide +kernel
theorem d_Am_multiply_13 : decode b_Am_multiply 13 = .ok (.bipush 6, 2) := by decide +kernel
theorem d_Am_multiply_15 : decode b_Am_multiply 15 = .ok (.if_icmp .ge 49, 3) := by decide +kernel
theorem d_Am_multiply_18 : decode b_Am_multiply 18 = .ok (.aload_n 0, 1) := by decide +kernel
theorem d_Am_multiply_19 : decode b_Am_multiply 19 = .ok (.getfield 11, 3) := by decide +kernel
theorem d_Am_multiply_22 : decode b_Am_multiply 22 = .ok (.iload_n 3, 1) := by decide +kernel
theorem d_Am_multiply_23 : decode b_Am_multiply 23 = .ok (.iload 6, 2) := by decide +kernel
theorem d_Am_multiply_25 : decode b_Am_multiply 25 = .ok (.iadd, 1) := by decide +kernel
theorem d_Am_multiply_26 : decode b_Am_multiply 26 = .ok (.laload, 1) := by decide +kernel
theorem d_Am_multiply_27 : decode b_Am_multiply 27 = .ok (.iload_n 2, 1) := by decide +kernel
theorem d_Am_multiply_28 : decode b_Am_multiply 28 = .ok (.i2l, 1) := by decide +kernel
theorem d_Am_multiply_29 : decode b_Am_multiply 29 = .ok (.lmul, 1) := by decide +kernel
theorem d_Am_multiply_30 : decode b_Am_multiply 30 = .ok (.lload 4, 2) := by decide +kernel
theorem d_Am_multiply_32 : decode b_Am_multiply 32 = .ok (.ladd, 1) := by decide +kernel
theorem d_Am_multiply_33 : decode b_Am_multiply 33 = .ok (.lstore 7, 2) := by decide +kernel
theorem d_Am_multiply_35 : decode b_Am_multiply 35 = .ok (.aload_n 0, 1) := by decide +kernel
theorem d_Am_multiply_36 : decode b_Am_multiply 36 = .ok (.getfield 11, 3) := by decide +kernel
theorem d_Am_multiply_39 : decode b_Am_multiply 39 = .ok (.iload_n 3, 1) := by decide +kernel
theorem d_Am_multiply_40 : decode b_Am_multiply 40 = .ok (.iload 6, 2) := by decide +kernel
theorem d_Am_multiply_42 : decode b_Am_multiply 42 = .ok (.iadd, 1) := by decide +kernel
theorem d_Am_multiply_43 : decode b_Am_multiply 43 = .ok (.lload 7, 2) := by decide +kernel
theorem d_Am_multiply_45 : decode b_Am_multiply 45 = .ok (.ldc2_w 15, 3) := by decide +kernel
theorem d_Am_multiply_48 : decode b_Am_multiply 48 = .ok (.lrem, 1) := by decide +kernel
theorem d_Am_multiply_49 : decode b_Am_multiply 49 = .ok (.lastore, 1) := by decide +kernel
theorem d_Am_multiply_50 : decode b_Am_multiply 50 = .ok (.lload 7, 2) := by decide +kernel
theorem d_Am_multiply_52 : decode b_Am_multiply 52 = .ok (.ldc2_w 15, 3) := by decide +kernel
theorem d_Am_multiply_55 : decode b_Am_multiply 55 = .ok (.ldiv, 1) := by decide +kernel
theorem d_Am_multiply_56 : decode b_Am_multiply 56 = .ok (.lstore 4, 2) := by decide +kernel
theorem d_Am_multiply_58 : decode b_Am_multiply 58 = .ok (.iinc 6 1, 3) := by decide +kernel
theorem d_Am_multiply_61 : decode b_Am_multiply 61 = .ok (.goto (-50), 3) := by decide +kernel
theorem d_Am_multiply_64 : decode b_Am_multiply 64 = .ok (.return_, 1) := by decide +kernel
theorem d_Am_setProduct_0 : decode b_Am_setProduct 0 = .ok (.iload_n 1, 1) := by decide +kernel
theorem d_Am_setProduct_1 : decode b_Am_setProduct 1 = .ok (.bipush 6, 2) := by decide +kernel
theorem d_Am_setProduct_3 : decode b_Am_setProduct 3 = .ok (.imul, 1) := by decide +kernel
theorem d_Am_setProduct_4 : decode b_Am_setProduct 4 = .ok (.istore 4, 2) := by decide +kernel
theorem d_Am_setProduct_6 : decode b_Am_setProduct 6 = .ok (.lconst 0, 1) := by decide +kernel
theorem d_Am_setProduct_7 : decode b_Am_setProduct 7 = .ok (.lstore 5, 2) := by decide +kernel
theorem d_Am_setProduct_9 : decode b_Am_setProduct 9 = .ok (.iconst 0, 1) := by decide +kernel
theorem d_Am_setProduct_10 : decode b_Am_setProduct 10 = .ok (.istore 7, 2) := by decide +kernel
theorem d_Am_setProduct_12 : decode b_Am_setProduct 12 = .ok (.iload 7, 2) := by decide +kernel
theorem d_Am_setProduct_14 : decode b_Am_setProduct 14 = .ok (.bipush 6, 2) := by decide +kernel
theorem d_Am_setProduct_16 : decode b_Am_setProduct 16 = .ok (.if_icmp .ge 78, 3) := by decide +kernel
theorem d_Am_setProduct_19 : decode b_Am_setProduct 19 = .ok (.iconst 0, 1) := by decide +kernel
theorem d_Am_setProduct_20 : decode b_Am_setProduct 20 = .ok (.istore 8, 2) := by decide +kernel
theorem d_Am_setProduct_22 : decode b_Am_setProduct 22 = .ok (.iload 8, 2) := by decide +kernel
theorem d_Am_setProduct_24 : decode b_Am_setProduct 24 = .ok (.iload 7, 2) := by decide +kernel
theorem d_Am_setProduct_26 : decode b_Am_setProduct 26 = .ok (.if_icmp .gt 38, 3) := by decide +kernel
theorem d_Am_setProduct_29 : decode b_Am_setProduct 29 = .ok (.lload 5, 2) := by decide +kernel
theorem d_Am_setProduct_31 : decode b_Am_setProduct 31 = .ok (.aload_n 2, 1) := by decide +kernel
theorem d_Am_setProduct_32 : decode b_Am_setProduct 32 = .ok (.getfield 11, 3) := by decide +kernel
theorem d_Am_setProduct_35 : decode b_Am_setProduct 35 = .ok (.iload 4, 2) := by decide +kernel
theorem d_Am_setProduct_37 : decode b_Am_setProduct 37 = .ok (.iload 8, 2) := by decide +kernel
theorem d_Am_setProduct_39 : decode b_Am_setProduct 39 = .ok (.iadd, 1) := by decide +kernel
theorem d_Am_setProduct_40 : decode b_Am_setProduct 40 = .ok (.laload, 1) := by decide +kernel
theorem d_Am_setProduct_41 : decode b_Am_setProduct 41 = .ok (.aload_n 3, 1) := by decide +kernel
theorem d_Am_setProduct_42 : decode b_Am_setProduct 42 = .ok (.getfield 11, 3) := by decide +kernel
theorem d_Am_setProduct_45 : decode b_Am_setProduct 45 = .ok (.iload 4, 2) := by decide +kernel
theorem d_Am_setProduct_47 : decode b_Am_setProduct 47 = .ok (.iload 7, 2) := by decide +kernel
theorem d_Am_setProduct_49 : decode b_Am_setProduct 49 = .ok (.iadd, 1) := by decide +kernel
theorem d_Am_setProduct_50 : decode b_Am_setProduct 50 = .ok (.iload 8, 2) := by decide +kernel
theorem d_Am_setProduct_52 : decode b_Am_setProduct 52 = .ok (.isub, 1) := by decide +kernel
theorem d_Am_setProduct_53 : decode b_Am_setProduct 53 = .ok (.laload, 1) := by decide +kernel
theorem d_Am_setProduct_54 : decode b_Am_setProduct 54 = .ok (.lmul, 1) := by decide +kernel
theorem d_Am_setProduct_55 : decode b_Am_setProduct 55 = .ok (.ladd, 1) := by decide +kernel
theorem d_Am_setProduct_56 : decode b_Am_setProduct 56 = .ok (.lstore 5, 2) := by decide +kernel
theorem d_Am_setProduct_58 : decode b_Am_setProduct 58 = .ok (.iinc 8 1, 3) := by decide +kernel
theorem d_Am_setProduct_61 : decode b_Am_setProduct 61 = .ok (.goto (-39), 3) := by decide +kernel
theorem d_Am_setProduct_64 : decode b_Am_setProduct 64 = .ok (.aload_n 0, 1) := by decide +kernel
theorem d_Am_setProduct_65 : decode b_Am_setProduct 65 = .ok (.getfield 11, 3) := by decide +kernel
theorem d_Am_setProduct_68 : decode b_Am_setProduct 68 = .ok (.iload 4, 2) := by decide +kernel
theorem d_Am_setProduct_70 : decode b_Am_setProduct 70 = .ok (.iload 7, 2) := by decide +kernel
theorem d_Am_setProduct_72 : decode b_Am_setProduct 72 = .ok (.iadd, 1) := by decide +kernel
theorem d_Am_setProduct_73 : decode b_Am_setProduct 73 = .ok (.lload 5, 2) := by decide +kernel
theorem d_Am_setProduct_75 : decode b_Am_setProduct 75 = .ok (.ldc2_w 15, 3) := by decide +kernel
theorem d_Am_setProduct_78 : decode b_Am_setProduct 78 = .ok (.lrem, 1) := by decide +kernel
theorem d_Am_setProduct_79 : decode b_Am_setProduct 79 = .ok (.lastore, 1) := by decide +kernel
theorem d_Am_setProduct_80 : decode b_Am_setProduct 80 = .ok (.lload 5, 2) := by decide +kernel
theorem d_Am_setProduct_82 : decode b_Am_setProduct 82 = .ok (.ldc2_w 15, 3) := by decide +kernel
theorem d_Am_setProduct_85 : decode b_Am_setProduct 85 = .ok (.ldiv, 1) := by decide +kernel
theorem d_Am_setProduct_86 : decode b_Am_setProduct 86 = .ok (.lstore 5, 2) := by decide +kernel
theorem d_Am_setProduct_88 : decode b_Am_setProduct 88 = .ok (.iinc 7 1, 3) := by decide +kernel
theorem d_Am_setProduct_91 : decode b_Am_setProduct 91 = .ok (.goto (-79), 3) := by decide +kernel
theorem d_Am_setProduct_94 : decode b_Am_setProduct 94 = .ok (.return_, 1) := by decide +kernel
theorem d_Am_blend_0 : decode b_Am_blend 0 = .ok (.bipush 16, 2) := by decide +kernel
theorem d_Am_blend_2 : decode b_Am_blend 2 = .ok (.iload_n 3, 1) := by decide +kernel
theorem d_Am_blend_3 : decode b_Am_blend 3 = .ok (.isub, 1) := by decide +kernel
theorem d_Am_blend_4 : decode b_Am_blend 4 = .ok (.istore 4, 2) := by decide +kernel
theorem d_Am_blend_6 : decode b_Am_blend 6 = .ok (.lconst 0, 1) := by decide +kernel
theorem d_Am_blend_7 : decode b_Am_blend 7 = .ok (.lstore 5, 2) := by decide +kernel
theorem d_Am_blend_9 : decode b_Am_blend 9 = .ok (.lconst 0, 1) := by decide +kernel
theorem d_Am_blend_10 : decode b_Am_blend 10 = .ok (.lstore 7, 2) := by decide +kernel
theorem d_Am_blend_12 : decode b_Am_blend 12 = .ok (.iconst 0, 1) := by decide +kernel
theorem d_Am_blend_13 : decode b_Am_blend 13 = .ok (.istore 9, 2) := by decide +kernel
theorem d_Am_blend_15 : decode b_Am_blend 15 = .ok (.iload 9, 2) := by decide +kernel
theorem d_Am_blend_17 : decode b_Am_blend 17 = .ok (.bipush 6, 2) := by decide +kernel
theorem d_Am_blend_19 : decode b_Am_blend 19 = .ok (.if_icmp .ge 123, 3) := by decide +kernel
theorem d_Am_blend_22 : decode b_Am_blend 22 = .ok (.aload_n 0, 1) := by decide +kernel
theorem d_Am_blend_23 : decode b_Am_blend 23 = .ok (.getfield 11, 3) := by decide +kernel
theorem d_Am_blend_26 : decode b_Am_blend 26 = .ok (.iload_n 1, 1) := by decide +kernel
theorem d_Am_blend_27 : decode b_Am_blend 27 = .ok (.bipush 6, 2) := by decide +kernel
theorem d_Am_blend_29 : decode b_Am_blend 29 = .ok (.imul, 1) := by decide +kernel
theorem d_Am_blend_30 : decode b_Am_blend 30 = .ok (.iload 9, 2) := by decide +kernel
theorem d_Am_blend_32 : decode b_Am_blend 32 = .ok (.iadd, 1) := by decide +kernel
theorem d_Am_blend_33 : decode b_Am_blend 33 = .ok (.laload, 1) := by decide +kernel
theorem d_Am_blend_34 : decode b_Am_blend 34 = .ok (.lstore 10, 2) := by decide +kernel
theorem d_Am_blend_36 : decode b_Am_blend 36 = .ok (.aload_n 0, 1) := by decide +kernel
theorem d_Am_blend_37 : decode b_Am_blend 37 = .ok (.getfield 11, 3) := by decide +kernel
theorem d_Am_blend_40 : decode b_Am_blend 40 = .ok (.iload_n 2, 1) := by decide +kernel
theorem d_Am_blend_41 : decode b_Am_blend 41 = .ok (.bipush 6, 2) := by decide +kernel
theorem d_Am_blend_43 : decode b_Am_blend 43 = .ok (.imul, 1) := by decide +kernel
theorem d_Am_blend_44 : decode b_Am_blend 44 = .ok (.iload 9, 2) := by decide +kernel
theorem d_Am_blend_46 : decode b_Am_blend 46 = .ok (.iadd, 1) := by decide +kernel
theorem d_Am_blend_47 : decode b_Am_blend 47 = .ok (.laload, 1) := by decide +kernel
theorem d_Am_blend_48 : decode b_Am_blend 48 = .ok (.lstore 12, 2) := by decide +kernel
theorem d_Am_blend_50 : decode b_Am_blend 50 = .ok (.iload 4, 2) := by decide +kernel
theorem d_Am_blend_52 : decode b_Am_blend 52 = .ok (.i2l, 1) := by decide +kernel
theorem d_Am_blend_53 : decode b_Am_blend 53 = .ok (.lload 10, 2) := by decide +kernel
theorem d_Am_blend_55 : decode b_Am_blend 55 = .ok (.lmul, 1) := by decide +kernel
theorem d_Am_blend_56 : decode b_Am_blend 56 = .ok (.iload_n 3, 1) := by decide +kernel
theorem d_Am_blend_57 : decode b_Am_blend 57 = .ok (.i2l, 1) := by decide +kernel
theorem d_Am_blend_58 : decode b_Am_blend 58 = .ok (.lload 12, 2) := by decide +kernel
theorem d_Am_blend_60 : decode b_Am_blend 60 = .ok (.lmul, 1) := by decide +kernel
theorem d_Am_blend_61 : decode b_Am_blend 61 = .ok (.ladd, 1) := by decide +kernel
theorem d_Am_blend_62 : decode b_Am_blend 62 = .ok (.lload 5, 2) := by decide +kernel
theorem d_Am_blend_64 : decode b_Am_blend 64 = .ok (.ladd, 1) := by decide +kernel
theorem d_Am_blend_65 : decode b_Am_blend 65 = .ok (.lstore 14, 2) := by decide +kernel
theorem d_Am_blend_67 : decode b_Am_blend 67 = .ok (.iload_n 3, 1) := by decide +kernel
theorem d_Am_blend_68 : decode b_Am_blend 68 = .ok (.i2l, 1) := by decide +kernel
theorem d_Am_blend_69 : decode b_Am_blend 69 = .ok (.lload 10, 2) := by decide +kernel
theorem d_Am_blend_71 : decode b_Am_blend 71 = .ok (.lmul, 1) := by decide +kernel
theorem d_Am_blend_72 : decode b_Am_blend 72 = .ok (.iload 4, 2) := by decide +kernel
theorem d_Am_blend_74 : decode b_Am_blend 74 = .ok (.i2l, 1) := by decide +kernel
theorem d_Am_blend_75 : decode b_Am_blend 75 = .ok (.lload 12, 2) := by decide +kernel
theorem d_Am_blend_77 : decode b_Am_blend 77 = .ok (.lmul, 1) := by decide +kernel
theorem d_Am_blend_78 : decode b_Am_blend 78 = .ok (.ladd, 1) := by decide +kernel
theorem d_Am_blend_79 : decode b_Am_blend 79 = .ok (.lload 7, 2) := by decide +kernel
theorem d_Am_blend_81 : decode b_Am_blend 81 = .ok (.ladd, 1) := by decide +kernel
theorem d_Am_blend_82 : decode b_Am_blend 82 = .ok (.lstore 16, 2) := by decide +kernel
theorem d_Am_blend_84 : decode b_Am_blend 84 = .ok (.aload_n 0, 1) := by decide +kernel
theorem d_Am_blend_85 : decode b_Am_blend 85 = .ok (.getfield 11, 3) := by decide +kernel
theorem d_Am_blend_88 : decode b_Am_blend 88 = .ok (.iload_n 1, 1) := by decide +kernel
theorem d_Am_blend_89 : decode b_Am_blend 89 = .ok (.bipush 6, 2) := by decide +kernel
theorem d_Am_blend_91 : decode b_Am_blend 91 = .ok (.imul, 1) := by decide +kernel
theorem d_Am_blend_92 : decode b_Am_blend 92 = .ok (.iload 9, 2) := by decide +kernel
theorem d_Am_blend_94 : decode b_Am_blend 94 = .ok (.iadd, 1) := by decide +kernel
theorem d_Am_blend_95 : decode b_Am_blend 95 = .ok (.lload 14, 2) := by decide +kernel
theorem d_Am_blend_97 : decode b_Am_blend 97 = .ok (.ldc2_w 15, 3) := by decide +kernel
theorem d_Am_blend_100 : decode b_Am_blend 100 = .ok (.lrem, 1) := by decide +kernel
theorem d_Am_blend_101 : decode b_Am_blend 101 = .ok (.lastore, 1) := by decide +kernel
theorem d_Am_blend_102 : decode b_Am_blend 102 = .ok (.aload_n 0, 1) := by decide +kernel
theorem d_Am_blend_103 : decode b_Am_blend 103 = .ok (.getfield 11, 3) := by decide +kernel
theorem d_Am_blend_106 : decode b_Am_blend 106 = .ok (.iload_n 2, 1) := by decide +kernel
theorem d_Am_blend_107 : decode b_Am_blend 107 = .ok (.bipush 6, 2) := by decide +kernel
theorem d_Am_blend_109 : decode b_Am_blend 109 = .ok (.imul, 1) := by decide +kernel
theorem d_Am_blend_110 : decode b_Am_blend 110 = .ok (.iload 9, 2) := by decide +kernel
theorem d_Am_blend_112 : decode b_Am_blend 112 = .ok (.iadd, 1) := by decide +kernel
theorem d_Am_blend_113 : decode b_Am_blend 113 = .ok (.lload 16, 2) := by decide +kernel
theorem d_Am_blend_115 : decode b_Am_blend 115 = .ok (.ldc2_w 15, 3) := by decide +kernel
theorem d_Am_blend_118 : decode b_Am_blend 118 = .ok (.lrem, 1) := by decide +kernel
theorem d_Am_blend_119 : decode b_Am_blend 119 = .ok (.lastore, 1) := by decide +kernel
theorem d_Am_blend_120 : decode b_Am_blend 120 = .ok (.lload 14, 2) := by decide +kernel
theorem d_Am_blend_122 : decode b_Am_blend 122 = .ok (.ldc2_w 15, 3) := by decide +kernel
theorem d_Am_blend_125 : decode b_Am_blend 125 = .ok (.ldiv, 1) := by decide +kernel
theorem d_Am_blend_126 : decode b_Am_blend 126 = .ok (.lstore 5, 2) := by decide +kernel
theorem d_Am_blend_128 : decode b_Am_blend 128 = .ok (.lload 16, 2) := by decide +kernel
theorem d_Am_blend_130 : decode b_Am_blend 130 = .ok (.ldc2_w 15, 3) := by decide +kernel
theorem d_Am_blend_133 : decode b_Am_blend 133 = .ok (.ldiv, 1) := by decide +kernel
theorem d_Am_blend_134 : decode b_Am_blend 134 = .ok (.lstore 7, 2) := by decide +kernel
theorem d_Am_blend_136 : decode b_Am_blend 136 = .ok (.iinc 9 1, 3) := by decide +kernel
theorem d_Am_blend_139 : decode b_Am_blend 139 = .ok (.goto (-124), 3) := by decide +kernel
theorem d_Am_blend_142 : decode b_Am_blend 142 = .ok (.return_, 1) := by decide +kernel
theorem d_Am_isZero_0 : decode b_Am_isZero 0 = .ok (.iconst 0, 1) := by decide +kernel
theorem d_Am_isZero_1 : decode b_Am_isZero 1 = .ok (.istore_n 2, 1) := by decide +kernel
theorem d_Am_isZero_2 : decode b_Am_isZero 2 = .ok (.iload_n 2, 1) := by decide +kernel
theorem d_Am_isZero_3 : decode b_Am_isZero 3 = .ok (.bipush 6, 2) := by decide +kernel
theorem d_Am_isZero_5 : decode b_Am_isZero 5 = .ok (.if_icmp .ge 27, 3) := by decide +kernel
theorem d_Am_isZero_8 : decode b_Am_isZero 8 = .ok (.aload_n 0, 1) := by decide +kernel
theorem d_Am_isZero_9 : decode b_Am_isZero 9 = .ok (.getfield 11, 3) := by decide +kernel
theorem d_Am_isZero_12 : decode b_Am_isZero 12 = .ok (.iload_n 1, 1) := by decide +kernel
theorem d_Am_isZero_13 : decode b_Am_isZero 13 = .ok (.bipush 6, 2) := by decide +kernel
theorem d_Am_isZero_15 : decode b_Am_isZero 15 = .ok (.imul, 1) := by decide +kernel
theorem d_Am_isZero_16 : decode b_Am_isZero 16 = .ok (.iload_n 2, 1) := by decide +kernel
theorem d_Am_isZero_17 : decode b_Am_isZero 17 = .ok (.iadd, 1) := by decide +kernel
theorem d_Am_isZero_18 : decode b_Am_isZero 18 = .ok (.laload, 1) := by decide +kernel
theorem d_Am_isZero_19 : decode b_Am_isZero 19 = .ok (.lconst 0, 1) := by decide +kernel
theorem d_Am_isZero_20 : decode b_Am_isZero 20 = .ok (.lcmp, 1) := by decide +kernel
theorem d_Am_isZero_21 : decode b_Am_isZero 21 = .ok (.ifCond .eq 5, 3) := by decide +kernel
theorem d_Am_isZero_24 : decode b_Am_isZero 24 = .ok (.iconst 0, 1) := by decide +kernel
theorem d_Am_isZero_25 : decode b_Am_isZero 25 = .ok (.ireturn, 1) := by decide +kernel
theorem d_Am_isZero_26 : decode b_Am_isZero 26 = .ok (.iinc 2 1, 3) := by decide +kernel
theorem d_Am_isZero_29 : decode b_Am_isZero 29 = .ok (.goto (-27), 3) := by decide +kernel
theorem d_Am_isZero_32 : decode b_Am_isZero 32 = .ok (.iconst 1, 1) := by decide +kernel
theorem d_Am_isZero_33 : decode b_Am_isZero 33 = .ok (.ireturn, 1) := by decide +kernel
theorem d_Am_compare_0 : decode b_Am_compare 0 = .ok (.iconst 5, 1) := by decide +kernel
theorem d_Am_compare_1 : decode b_Am_compare 1 = .ok (.istore_n 3, 1) := by decide +kernel
theorem d_Am_compare_2 : decode b_Am_compare 2 = .ok (.iload_n 3, 1) := by decide +kernel
theorem d_Am_compare_3 : decode b_Am_compare 3 = .ok (.ifCond .lt 57, 3) := by decide +kernel
theorem d_Am_compare_6 : decode b_Am_compare 6 = .ok (.aload_n 0, 1) := by decide +kernel
theorem d_Am_compare_7 : decode b_Am_compare 7 = .ok (.getfield 11, 3) := by decide +kernel
theorem d_Am_compare_10 : decode b_Am_compare 10 = .ok (.iload_n 1, 1) := by decide +kernel
theorem d_Am_compare_11 : decode b_Am_compare 11 = .ok (.bipush 6, 2) := by decide +kernel
theorem d_Am_compare_13 : decode b_Am_compare 13 = .ok (.imul, 1) := by decide +kernel
theorem d_Am_compare_14 : decode b_Am_compare 14 = .ok (.iload_n 3, 1) := by decide +kernel
theorem d_Am_compare_15 : decode b_Am_compare 15 = .ok (.iadd, 1) := by decide +kernel
theorem d_Am_compare_16 : decode b_Am_compare 16 = .ok (.laload, 1) := by decide +kernel
theorem d_Am_compare_17 : decode b_Am_compare 17 = .ok (.lstore 4, 2) := by decide +kernel
theorem d_Am_compare_19 : decode b_Am_compare 19 = .ok (.aload_n 0, 1) := by decide +kernel
theorem d_Am_compare_20 : decode b_Am_compare 20 = .ok (.getfield 11, 3) := by decide +kernel
theorem d_Am_compare_23 : decode b_Am_compare 23 = .ok (.iload_n 2, 1) := by decide +kernel
theorem d_Am_compare_24 : decode b_Am_compare 24 = .ok (.bipush 6, 2) := by decide +kernel
theorem d_Am_compare_26 : decode b_Am_compare 26 = .ok (.imul, 1) := by decide +kernel
theorem d_Am_compare_27 : decode b_Am_compare 27 = .ok (.iload_n 3, 1) := by decide +kernel
theorem d_Am_compare_28 : decode b_Am_compare 28 = .ok (.iadd, 1) := by decide +kernel
theorem d_Am_compare_29 : decode b_Am_compare 29 = .ok (.laload, 1) := by decide +kernel
theorem d_Am_compare_30 : decode b_Am_compare 30 = .ok (.lstore 6, 2) := by decide +kernel
theorem d_Am_compare_32 : decode b_Am_compare 32 = .ok (.lload 4, 2) := by decide +kernel
theorem d_Am_compare_34 : decode b_Am_compare 34 = .ok (.lload 6, 2) := by decide +kernel
theorem d_Am_compare_36 : decode b_Am_compare 36 = .ok (.lcmp, 1) := by decide +kernel
theorem d_Am_compare_37 : decode b_Am_compare 37 = .ok (.ifCond .eq 17, 3) := by decide +kernel
theorem d_Am_compare_40 : decode b_Am_compare 40 = .ok (.lload 4, 2) := by decide +kernel
theorem d_Am_compare_42 : decode b_Am_compare 42 = .ok (.lload 6, 2) := by decide +kernel
theorem d_Am_compare_44 : decode b_Am_compare 44 = .ok (.lcmp, 1) := by decide +kernel
theorem d_Am_compare_45 : decode b_Am_compare 45 = .ok (.ifCond .le 7, 3) := by decide +kernel
theorem d_Am_compare_48 : decode b_Am_compare 48 = .ok (.iconst 1, 1) := by decide +kernel
theorem d_Am_compare_49 : decode b_Am_compare 49 = .ok (.goto 4, 3) := by decide +kernel
theorem d_Am_compare_52 : decode b_Am_compare 52 = .ok (.iconst (-1), 1) := by decide +kernel
theorem d_Am_compare_53 : decode b_Am_compare 53 = .ok (.ireturn, 1) := by decide +kernel
theorem d_Am_compare_54 : decode b_Am_compare 54 = .ok (.iinc 3 (-1), 3) := by decide +kernel
theorem d_Am_compare_57 : decode b_Am_compare 57 = .ok (.goto (-55), 3) := by decide +kernel
theorem d_Am_compare_60 : decode b_Am_compare 60 = .ok (.iconst 0, 1) := by decide +kernel
theorem d_Am_compare_61 : decode b_Am_compare 61 = .ok (.ireturn, 1) := by decide +kernel
