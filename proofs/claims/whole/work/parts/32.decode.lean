theorem d_T_renew_0 : decode b_T_renew 0 = .ok (.aload_n 0, 1) := by decide +kernel
theorem d_T_renew_1 : decode b_T_renew 1 = .ok (.getfield 11, 3) := by decide +kernel
theorem d_T_renew_4 : decode b_T_renew 4 = .ok (.iconst 0, 1) := by decide +kernel
theorem d_T_renew_5 : decode b_T_renew 5 = .ok (.invokestatic 35, 3) := by decide +kernel
theorem d_T_renew_8 : decode b_T_renew 8 = .ok (.aload_n 0, 1) := by decide +kernel
theorem d_T_renew_9 : decode b_T_renew 9 = .ok (.getfield 15, 3) := by decide +kernel
theorem d_T_renew_12 : decode b_T_renew 12 = .ok (.iconst 0, 1) := by decide +kernel
theorem d_T_renew_13 : decode b_T_renew 13 = .ok (.invokestatic 35, 3) := by decide +kernel
theorem d_T_renew_16 : decode b_T_renew 16 = .ok (.aload_n 0, 1) := by decide +kernel
theorem d_T_renew_17 : decode b_T_renew 17 = .ok (.aload_n 1, 1) := by decide +kernel
theorem d_T_renew_18 : decode b_T_renew 18 = .ok (.invokevirtual 41, 3) := by decide +kernel
theorem d_T_renew_21 : decode b_T_renew 21 = .ok (.aload_n 0, 1) := by decide +kernel
theorem d_T_renew_22 : decode b_T_renew 22 = .ok (.iconst 1, 1) := by decide +kernel
theorem d_T_renew_23 : decode b_T_renew 23 = .ok (.putfield 21, 3) := by decide +kernel
theorem d_T_renew_26 : decode b_T_renew 26 = .ok (.iconst 0, 1) := by decide +kernel
theorem d_T_renew_27 : decode b_T_renew 27 = .ok (.istore_n 3, 1) := by decide +kernel
theorem d_T_renew_28 : decode b_T_renew 28 = .ok (.aload_n 0, 1) := by decide +kernel
theorem d_T_renew_29 : decode b_T_renew 29 = .ok (.getfield 21, 3) := by decide +kernel
theorem d_T_renew_32 : decode b_T_renew 32 = .ok (.ifCond .eq 33, 3) := by decide +kernel
theorem d_T_renew_35 : decode b_T_renew 35 = .ok (.iload_n 3, 1) := by decide +kernel
theorem d_T_renew_36 : decode b_T_renew 36 = .ok (.sipush 1153, 3) := by decide +kernel
theorem d_T_renew_39 : decode b_T_renew 39 = .ok (.if_icmp .ge 26, 3) := by decide +kernel
theorem d_T_renew_42 : decode b_T_renew 42 = .ok (.aload_n 0, 1) := by decide +kernel
theorem d_T_renew_43 : decode b_T_renew 43 = .ok (.iconst 0, 1) := by decide +kernel
theorem d_T_renew_44 : decode b_T_renew 44 = .ok (.putfield 21, 3) := by decide +kernel
theorem d_T_renew_47 : decode b_T_renew 47 = .ok (.aload_n 0, 1) := by decide +kernel
theorem d_T_renew_48 : decode b_T_renew 48 = .ok (.aload_n 1, 1) := by decide +kernel
theorem d_T_renew_49 : decode b_T_renew 49 = .ok (.aload_n 2, 1) := by decide +kernel
theorem d_T_renew_50 : decode b_T_renew 50 = .ok (.invokevirtual 45, 3) := by decide +kernel
theorem d_T_renew_53 : decode b_T_renew 53 = .ok (.aload_n 0, 1) := by decide +kernel
theorem d_T_renew_54 : decode b_T_renew 54 = .ok (.aload_n 1, 1) := by decide +kernel
theorem d_T_renew_55 : decode b_T_renew 55 = .ok (.aload_n 2, 1) := by decide +kernel
theorem d_T_renew_56 : decode b_T_renew 56 = .ok (.invokevirtual 49, 3) := by decide +kernel
theorem d_T_renew_59 : decode b_T_renew 59 = .ok (.iinc 3 1, 3) := by decide +kernel
theorem d_T_renew_62 : decode b_T_renew 62 = .ok (.goto (-34), 3) := by decide +kernel
theorem d_T_renew_65 : decode b_T_renew 65 = .ok (.return_, 1) := by decide +kernel
