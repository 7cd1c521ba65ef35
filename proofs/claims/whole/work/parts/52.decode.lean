theorem d_P_size_0 : decode b_P_size 0 = .ok (.iload_n 1, 1) := by decide +kernel
theorem d_P_size_1 : decode b_P_size 1 = .ok (.tableswitch 72 0 4 #[35, 43, 51, 59, 67], 35) := by decide +kernel
theorem d_P_size_36 : decode b_P_size 36 = .ok (.aload_n 0, 1) := by decide +kernel
theorem d_P_size_37 : decode b_P_size 37 = .ok (.getfield 12, 3) := by decide +kernel
theorem d_P_size_40 : decode b_P_size 40 = .ok (.getfield 113, 3) := by decide +kernel
theorem d_P_size_43 : decode b_P_size 43 = .ok (.ireturn, 1) := by decide +kernel
theorem d_P_size_44 : decode b_P_size 44 = .ok (.aload_n 0, 1) := by decide +kernel
theorem d_P_size_45 : decode b_P_size 45 = .ok (.getfield 12, 3) := by decide +kernel
theorem d_P_size_48 : decode b_P_size 48 = .ok (.getfield 116, 3) := by decide +kernel
theorem d_P_size_51 : decode b_P_size 51 = .ok (.ireturn, 1) := by decide +kernel
theorem d_P_size_52 : decode b_P_size 52 = .ok (.aload_n 0, 1) := by decide +kernel
theorem d_P_size_53 : decode b_P_size 53 = .ok (.getfield 12, 3) := by decide +kernel
theorem d_P_size_56 : decode b_P_size 56 = .ok (.invokevirtual 117, 3) := by decide +kernel
theorem d_P_size_59 : decode b_P_size 59 = .ok (.ireturn, 1) := by decide +kernel
theorem d_P_size_60 : decode b_P_size 60 = .ok (.aload_n 0, 1) := by decide +kernel
theorem d_P_size_61 : decode b_P_size 61 = .ok (.getfield 26, 3) := by decide +kernel
theorem d_P_size_64 : decode b_P_size 64 = .ok (.invokevirtual 120, 3) := by decide +kernel
theorem d_P_size_67 : decode b_P_size 67 = .ok (.ireturn, 1) := by decide +kernel
theorem d_P_size_68 : decode b_P_size 68 = .ok (.aload_n 0, 1) := by decide +kernel
theorem d_P_size_69 : decode b_P_size 69 = .ok (.getfield 37, 3) := by decide +kernel
theorem d_P_size_72 : decode b_P_size 72 = .ok (.ireturn, 1) := by decide +kernel
theorem d_P_size_73 : decode b_P_size 73 = .ok (.iconst (-1), 1) := by decide +kernel
theorem d_P_size_74 : decode b_P_size 74 = .ok (.ireturn, 1) := by decide +kernel
theorem d_P_solve_0 : decode b_P_solve 0 = .ok (.aload_n 0, 1) := by decide +kernel
theorem d_P_solve_1 : decode b_P_solve 1 = .ok (.getfield 19, 3) := by decide +kernel
theorem d_P_solve_4 : decode b_P_solve 4 = .ok (.aload_n 0, 1) := by decide +kernel
theorem d_P_solve_5 : decode b_P_solve 5 = .ok (.getfield 12, 3) := by decide +kernel
theorem d_P_solve_8 : decode b_P_solve 8 = .ok (.invokevirtual 71, 3) := by decide +kernel
theorem d_P_solve_11 : decode b_P_solve 11 = .ok (.ifCond .ne 6, 3) := by decide +kernel
theorem d_P_solve_14 : decode b_P_solve 14 = .ok (.bipush (-3), 2) := by decide +kernel
theorem d_P_solve_16 : decode b_P_solve 16 = .ok (.ireturn, 1) := by decide +kernel
theorem d_P_solve_17 : decode b_P_solve 17 = .ok (.aload_n 0, 1) := by decide +kernel
theorem d_P_solve_18 : decode b_P_solve 18 = .ok (.getfield 26, 3) := by decide +kernel
theorem d_P_solve_21 : decode b_P_solve 21 = .ok (.aload_n 0, 1) := by decide +kernel
theorem d_P_solve_22 : decode b_P_solve 22 = .ok (.getfield 12, 3) := by decide +kernel
theorem d_P_solve_25 : decode b_P_solve 25 = .ok (.aload_n 0, 1) := by decide +kernel
theorem d_P_solve_26 : decode b_P_solve 26 = .ok (.getfield 19, 3) := by decide +kernel
theorem d_P_solve_29 : decode b_P_solve 29 = .ok (.invokevirtual 75, 3) := by decide +kernel
theorem d_P_solve_32 : decode b_P_solve 32 = .ok (.aload_n 0, 1) := by decide +kernel
theorem d_P_solve_33 : decode b_P_solve 33 = .ok (.getfield 26, 3) := by decide +kernel
theorem d_P_solve_36 : decode b_P_solve 36 = .ok (.invokevirtual 78, 3) := by decide +kernel
theorem d_P_solve_39 : decode b_P_solve 39 = .ok (.ireturn, 1) := by decide +kernel
