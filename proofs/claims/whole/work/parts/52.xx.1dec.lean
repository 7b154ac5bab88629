theorem d_LM_joint_0 : decode b_LM_joint 0 = .ok (.aload_n 0, 1) := by decide +kernel
theorem d_LM_joint_1 : decode b_LM_joint 1 = .ok (.getfield 19, 3) := by decide +kernel
theorem d_LM_joint_4 : decode b_LM_joint 4 = .ok (.getfield 88, 3) := by decide +kernel
theorem d_LM_joint_7 : decode b_LM_joint 7 = .ok (.ifCond .ne 11, 3) := by decide +kernel
theorem d_LM_joint_10 : decode b_LM_joint 10 = .ok (.new 57, 3) := by decide +kernel
theorem d_LM_joint_13 : decode b_LM_joint 13 = .ok (.dup, 1) := by decide +kernel
theorem d_LM_joint_14 : decode b_LM_joint 14 = .ok (.invokespecial 59, 3) := by decide +kernel
theorem d_LM_joint_17 : decode b_LM_joint 17 = .ok (.athrow, 1) := by decide +kernel
theorem d_LM_joint_18 : decode b_LM_joint 18 = .ok (.aload_n 0, 1) := by decide +kernel
theorem d_LM_joint_19 : decode b_LM_joint 19 = .ok (.getfield 37, 3) := by decide +kernel
theorem d_LM_joint_22 : decode b_LM_joint 22 = .ok (.invokevirtual 145, 3) := by decide +kernel
theorem d_LM_joint_25 : decode b_LM_joint 25 = .ok (.aload_n 0, 1) := by decide +kernel
theorem d_LM_joint_26 : decode b_LM_joint 26 = .ok (.getfield 37, 3) := by decide +kernel
theorem d_LM_joint_29 : decode b_LM_joint 29 = .ok (.iconst 0, 1) := by decide +kernel
theorem d_LM_joint_30 : decode b_LM_joint 30 = .ok (.invokevirtual 148, 3) := by decide +kernel
theorem d_LM_joint_33 : decode b_LM_joint 33 = .ok (.aload_n 0, 1) := by decide +kernel
theorem d_LM_joint_34 : decode b_LM_joint 34 = .ok (.aload_n 0, 1) := by decide +kernel
theorem d_LM_joint_35 : decode b_LM_joint 35 = .ok (.getfield 37, 3) := by decide +kernel
theorem d_LM_joint_38 : decode b_LM_joint 38 = .ok (.getfield 151, 3) := by decide +kernel
theorem d_LM_joint_41 : decode b_LM_joint 41 = .ok (.iconst 0, 1) := by decide +kernel
theorem d_LM_joint_42 : decode b_LM_joint 42 = .ok (.aload_n 0, 1) := by decide +kernel
theorem d_LM_joint_43 : decode b_LM_joint 43 = .ok (.getfield 43, 3) := by decide +kernel
theorem d_LM_joint_46 : decode b_LM_joint 46 = .ok (.invokevirtual 155, 3) := by decide +kernel
theorem d_LM_joint_49 : decode b_LM_joint 49 = .ok (.putfield 47, 3) := by decide +kernel
theorem d_LM_joint_52 : decode b_LM_joint 52 = .ok (.aload_n 0, 1) := by decide +kernel
theorem d_LM_joint_53 : decode b_LM_joint 53 = .ok (.getfield 47, 3) := by decide +kernel
theorem d_LM_joint_56 : decode b_LM_joint 56 = .ok (.ireturn, 1) := by decide +kernel
