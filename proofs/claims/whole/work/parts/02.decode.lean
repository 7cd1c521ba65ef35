theorem d_A_fill_0 : decode b_A_fill 0 = .ok (.iconst 0, 1) := by decide +kernel
theorem d_A_fill_1 : decode b_A_fill 1 = .ok (.istore_n 2, 1) := by decide +kernel
theorem d_A_fill_2 : decode b_A_fill 2 = .ok (.aload_n 0, 1) := by decide +kernel
theorem d_A_fill_3 : decode b_A_fill 3 = .ok (.arraylength, 1) := by decide +kernel
theorem d_A_fill_4 : decode b_A_fill 4 = .ok (.istore_n 3, 1) := by decide +kernel
theorem d_A_fill_5 : decode b_A_fill 5 = .ok (.iload_n 2, 1) := by decide +kernel
theorem d_A_fill_6 : decode b_A_fill 6 = .ok (.iload_n 3, 1) := by decide +kernel
theorem d_A_fill_7 : decode b_A_fill 7 = .ok (.if_icmp .ge 13, 3) := by decide +kernel
theorem d_A_fill_10 : decode b_A_fill 10 = .ok (.aload_n 0, 1) := by decide +kernel
theorem d_A_fill_11 : decode b_A_fill 11 = .ok (.iload_n 2, 1) := by decide +kernel
theorem d_A_fill_12 : decode b_A_fill 12 = .ok (.iload_n 1, 1) := by decide +kernel
theorem d_A_fill_13 : decode b_A_fill 13 = .ok (.iastore, 1) := by decide +kernel
theorem d_A_fill_14 : decode b_A_fill 14 = .ok (.iinc 2 1, 3) := by decide +kernel
theorem d_A_fill_17 : decode b_A_fill 17 = .ok (.goto (-12), 3) := by decide +kernel
theorem d_A_fill_20 : decode b_A_fill 20 = .ok (.return_, 1) := by decide +kernel
theorem d_P_areOfOneMethod_0 : decode b_P_areOfOneMethod 0 = .ok (.iload_n 1, 1) := by decide +kernel
theorem d_P_areOfOneMethod_1 : decode b_P_areOfOneMethod 1 = .ok (.bipush 16, 2) := by decide +kernel
theorem d_P_areOfOneMethod_3 : decode b_P_areOfOneMethod 3 = .ok (.invokestatic 41, 3) := by decide +kernel
theorem d_P_areOfOneMethod_6 : decode b_P_areOfOneMethod 6 = .ok (.ifCond .eq 18, 3) := by decide +kernel
theorem d_P_areOfOneMethod_9 : decode b_P_areOfOneMethod 9 = .ok (.iload_n 0, 1) := by decide +kernel
theorem d_P_areOfOneMethod_10 : decode b_P_areOfOneMethod 10 = .ok (.iload_n 1, 1) := by decide +kernel
theorem d_P_areOfOneMethod_11 : decode b_P_areOfOneMethod 11 = .ok (.invokestatic 123, 3) := by decide +kernel
theorem d_P_areOfOneMethod_14 : decode b_P_areOfOneMethod 14 = .ok (.invokestatic 127, 3) := by decide +kernel
theorem d_P_areOfOneMethod_17 : decode b_P_areOfOneMethod 17 = .ok (.ifCond .eq 7, 3) := by decide +kernel
theorem d_P_areOfOneMethod_20 : decode b_P_areOfOneMethod 20 = .ok (.iconst 1, 1) := by decide +kernel
theorem d_P_areOfOneMethod_21 : decode b_P_areOfOneMethod 21 = .ok (.goto 4, 3) := by decide +kernel
theorem d_P_areOfOneMethod_24 : decode b_P_areOfOneMethod 24 = .ok (.iconst 0, 1) := by decide +kernel
theorem d_P_areOfOneMethod_25 : decode b_P_areOfOneMethod 25 = .ok (.ireturn, 1) := by decide +kernel
theorem d_P_hasBit_0 : decode b_P_hasBit 0 = .ok (.iload_n 0, 1) := by decide +kernel
theorem d_P_hasBit_1 : decode b_P_hasBit 1 = .ok (.iload_n 1, 1) := by decide +kernel
theorem d_P_hasBit_2 : decode b_P_hasBit 2 = .ok (.ishr, 1) := by decide +kernel
theorem d_P_hasBit_3 : decode b_P_hasBit 3 = .ok (.iconst 1, 1) := by decide +kernel
theorem d_P_hasBit_4 : decode b_P_hasBit 4 = .ok (.iand, 1) := by decide +kernel
theorem d_P_hasBit_5 : decode b_P_hasBit 5 = .ok (.ifCond .eq 7, 3) := by decide +kernel
theorem d_P_hasBit_8 : decode b_P_hasBit 8 = .ok (.iconst 1, 1) := by decide +kernel
theorem d_P_hasBit_9 : decode b_P_hasBit 9 = .ok (.goto 4, 3) := by decide +kernel
theorem d_P_hasBit_12 : decode b_P_hasBit 12 = .ok (.iconst 0, 1) := by decide +kernel
theorem d_P_hasBit_13 : decode b_P_hasBit 13 = .ok (.ireturn, 1) := by decide +kernel
theorem d_P_isOfMethod_0 : decode b_P_isOfMethod 0 = .ok (.iload_n 0, 1) := by decide +kernel
theorem d_P_isOfMethod_1 : decode b_P_isOfMethod 1 = .ok (.bipush 16, 2) := by decide +kernel
theorem d_P_isOfMethod_3 : decode b_P_isOfMethod 3 = .ok (.invokestatic 41, 3) := by decide +kernel
theorem d_P_isOfMethod_6 : decode b_P_isOfMethod 6 = .ok (.ifCond .eq 15, 3) := by decide +kernel
theorem d_P_isOfMethod_9 : decode b_P_isOfMethod 9 = .ok (.iload_n 0, 1) := by decide +kernel
theorem d_P_isOfMethod_10 : decode b_P_isOfMethod 10 = .ok (.invokestatic 123, 3) := by decide +kernel
theorem d_P_isOfMethod_13 : decode b_P_isOfMethod 13 = .ok (.iload_n 1, 1) := by decide +kernel
theorem d_P_isOfMethod_14 : decode b_P_isOfMethod 14 = .ok (.if_icmp .ne 7, 3) := by decide +kernel
theorem d_P_isOfMethod_17 : decode b_P_isOfMethod 17 = .ok (.iconst 1, 1) := by decide +kernel
theorem d_P_isOfMethod_18 : decode b_P_isOfMethod 18 = .ok (.goto 4, 3) := by decide +kernel
theorem d_P_isOfMethod_21 : decode b_P_isOfMethod 21 = .ok (.iconst 0, 1) := by decide +kernel
theorem d_P_isOfMethod_22 : decode b_P_isOfMethod 22 = .ok (.ireturn, 1) := by decide +kernel
theorem d_P_isWithin_0 : decode b_P_isWithin 0 = .ok (.iload_n 0, 1) := by decide +kernel
theorem d_P_isWithin_1 : decode b_P_isWithin 1 = .ok (.ifCond .lt 12, 3) := by decide +kernel
theorem d_P_isWithin_4 : decode b_P_isWithin 4 = .ok (.iload_n 0, 1) := by decide +kernel
theorem d_P_isWithin_5 : decode b_P_isWithin 5 = .ok (.iload_n 1, 1) := by decide +kernel
theorem d_P_isWithin_6 : decode b_P_isWithin 6 = .ok (.if_icmp .ge 7, 3) := by decide +kernel
theorem d_P_isWithin_9 : decode b_P_isWithin 9 = .ok (.iconst 1, 1) := by decide +kernel
theorem d_P_isWithin_10 : decode b_P_isWithin 10 = .ok (.goto 4, 3) := by decide +kernel
theorem d_P_isWithin_13 : decode b_P_isWithin 13 = .ok (.iconst 0, 1) := by decide +kernel
theorem d_P_isWithin_14 : decode b_P_isWithin 14 = .ok (.ireturn, 1) := by decide +kernel
theorem d_P_methodOf_0 : decode b_P_methodOf 0 = .ok (.iload_n 0, 1) := by decide +kernel
theorem d_P_methodOf_1 : decode b_P_methodOf 1 = .ok (.iconst 4, 1) := by decide +kernel
theorem d_P_methodOf_2 : decode b_P_methodOf 2 = .ok (.idiv, 1) := by decide +kernel
theorem d_P_methodOf_3 : decode b_P_methodOf 3 = .ok (.ireturn, 1) := by decide +kernel
