theorem d_I_bitCount_0 : decode b_I_bitCount 0 = .ok (.iload_n 0, 1) := by decide +kernel
theorem d_I_bitCount_1 : decode b_I_bitCount 1 = .ok (.iload_n 0, 1) := by decide +kernel
theorem d_I_bitCount_2 : decode b_I_bitCount 2 = .ok (.iconst 1, 1) := by decide +kernel
theorem d_I_bitCount_3 : decode b_I_bitCount 3 = .ok (.iushr, 1) := by decide +kernel
theorem d_I_bitCount_4 : decode b_I_bitCount 4 = .ok (.ldc_w 265, 3) := by decide +kernel
theorem d_I_bitCount_7 : decode b_I_bitCount 7 = .ok (.iand, 1) := by decide +kernel
theorem d_I_bitCount_8 : decode b_I_bitCount 8 = .ok (.isub, 1) := by decide +kernel
theorem d_I_bitCount_9 : decode b_I_bitCount 9 = .ok (.istore_n 0, 1) := by decide +kernel
theorem d_I_bitCount_10 : decode b_I_bitCount 10 = .ok (.iload_n 0, 1) := by decide +kernel
theorem d_I_bitCount_11 : decode b_I_bitCount 11 = .ok (.ldc_w 266, 3) := by decide +kernel
theorem d_I_bitCount_14 : decode b_I_bitCount 14 = .ok (.iand, 1) := by decide +kernel
theorem d_I_bitCount_15 : decode b_I_bitCount 15 = .ok (.iload_n 0, 1) := by decide +kernel
theorem d_I_bitCount_16 : decode b_I_bitCount 16 = .ok (.iconst 2, 1) := by decide +kernel
theorem d_I_bitCount_17 : decode b_I_bitCount 17 = .ok (.iushr, 1) := by decide +kernel
theorem d_I_bitCount_18 : decode b_I_bitCount 18 = .ok (.ldc_w 266, 3) := by decide +kernel
theorem d_I_bitCount_21 : decode b_I_bitCount 21 = .ok (.iand, 1) := by decide +kernel
theorem d_I_bitCount_22 : decode b_I_bitCount 22 = .ok (.iadd, 1) := by decide +kernel
theorem d_I_bitCount_23 : decode b_I_bitCount 23 = .ok (.istore_n 0, 1) := by decide +kernel
theorem d_I_bitCount_24 : decode b_I_bitCount 24 = .ok (.iload_n 0, 1) := by decide +kernel
theorem d_I_bitCount_25 : decode b_I_bitCount 25 = .ok (.iload_n 0, 1) := by decide +kernel
theorem d_I_bitCount_26 : decode b_I_bitCount 26 = .ok (.iconst 4, 1) := by decide +kernel
theorem d_I_bitCount_27 : decode b_I_bitCount 27 = .ok (.iushr, 1) := by decide +kernel
theorem d_I_bitCount_28 : decode b_I_bitCount 28 = .ok (.iadd, 1) := by decide +kernel
theorem d_I_bitCount_29 : decode b_I_bitCount 29 = .ok (.ldc_w 267, 3) := by decide +kernel
theorem d_I_bitCount_32 : decode b_I_bitCount 32 = .ok (.iand, 1) := by decide +kernel
theorem d_I_bitCount_33 : decode b_I_bitCount 33 = .ok (.istore_n 0, 1) := by decide +kernel
theorem d_I_bitCount_34 : decode b_I_bitCount 34 = .ok (.iload_n 0, 1) := by decide +kernel
theorem d_I_bitCount_35 : decode b_I_bitCount 35 = .ok (.iload_n 0, 1) := by decide +kernel
theorem d_I_bitCount_36 : decode b_I_bitCount 36 = .ok (.bipush 8, 2) := by decide +kernel
theorem d_I_bitCount_38 : decode b_I_bitCount 38 = .ok (.iushr, 1) := by decide +kernel
theorem d_I_bitCount_39 : decode b_I_bitCount 39 = .ok (.iadd, 1) := by decide +kernel
theorem d_I_bitCount_40 : decode b_I_bitCount 40 = .ok (.istore_n 0, 1) := by decide +kernel
theorem d_I_bitCount_41 : decode b_I_bitCount 41 = .ok (.iload_n 0, 1) := by decide +kernel
theorem d_I_bitCount_42 : decode b_I_bitCount 42 = .ok (.iload_n 0, 1) := by decide +kernel
theorem d_I_bitCount_43 : decode b_I_bitCount 43 = .ok (.bipush 16, 2) := by decide +kernel
theorem d_I_bitCount_45 : decode b_I_bitCount 45 = .ok (.iushr, 1) := by decide +kernel
theorem d_I_bitCount_46 : decode b_I_bitCount 46 = .ok (.iadd, 1) := by decide +kernel
theorem d_I_bitCount_47 : decode b_I_bitCount 47 = .ok (.istore_n 0, 1) := by decide +kernel
theorem d_I_bitCount_48 : decode b_I_bitCount 48 = .ok (.iload_n 0, 1) := by decide +kernel
theorem d_I_bitCount_49 : decode b_I_bitCount 49 = .ok (.bipush 63, 2) := by decide +kernel
theorem d_I_bitCount_51 : decode b_I_bitCount 51 = .ok (.iand, 1) := by decide +kernel
theorem d_I_bitCount_52 : decode b_I_bitCount 52 = .ok (.ireturn, 1) := by decide +kernel
theorem d_T_countBits_0 : decode b_T_countBits 0 = .ok (.iconst 0, 1) := by decide +kernel
theorem d_T_countBits_1 : decode b_T_countBits 1 = .ok (.istore_n 1, 1) := by decide +kernel
theorem d_T_countBits_2 : decode b_T_countBits 2 = .ok (.aload_n 0, 1) := by decide +kernel
theorem d_T_countBits_3 : decode b_T_countBits 3 = .ok (.astore_n 2, 1) := by decide +kernel
theorem d_T_countBits_4 : decode b_T_countBits 4 = .ok (.aload_n 2, 1) := by decide +kernel
theorem d_T_countBits_5 : decode b_T_countBits 5 = .ok (.arraylength, 1) := by decide +kernel
theorem d_T_countBits_6 : decode b_T_countBits 6 = .ok (.istore_n 3, 1) := by decide +kernel
theorem d_T_countBits_7 : decode b_T_countBits 7 = .ok (.iconst 0, 1) := by decide +kernel
theorem d_T_countBits_8 : decode b_T_countBits 8 = .ok (.istore 4, 2) := by decide +kernel
theorem d_T_countBits_10 : decode b_T_countBits 10 = .ok (.iload 4, 2) := by decide +kernel
theorem d_T_countBits_12 : decode b_T_countBits 12 = .ok (.iload_n 3, 1) := by decide +kernel
theorem d_T_countBits_13 : decode b_T_countBits 13 = .ok (.if_icmp .ge 23, 3) := by decide +kernel
theorem d_T_countBits_16 : decode b_T_countBits 16 = .ok (.aload_n 2, 1) := by decide +kernel
theorem d_T_countBits_17 : decode b_T_countBits 17 = .ok (.iload 4, 2) := by decide +kernel
theorem d_T_countBits_19 : decode b_T_countBits 19 = .ok (.iaload, 1) := by decide +kernel
theorem d_T_countBits_20 : decode b_T_countBits 20 = .ok (.istore 5, 2) := by decide +kernel
theorem d_T_countBits_22 : decode b_T_countBits 22 = .ok (.iload_n 1, 1) := by decide +kernel
theorem d_T_countBits_23 : decode b_T_countBits 23 = .ok (.iload 5, 2) := by decide +kernel
theorem d_T_countBits_25 : decode b_T_countBits 25 = .ok (.invokestatic 29, 3) := by decide +kernel
theorem d_T_countBits_28 : decode b_T_countBits 28 = .ok (.iadd, 1) := by decide +kernel
theorem d_T_countBits_29 : decode b_T_countBits 29 = .ok (.istore_n 1, 1) := by decide +kernel
theorem d_T_countBits_30 : decode b_T_countBits 30 = .ok (.iinc 4 1, 3) := by decide +kernel
theorem d_T_countBits_33 : decode b_T_countBits 33 = .ok (.goto (-23), 3) := by decide +kernel
theorem d_T_countBits_36 : decode b_T_countBits 36 = .ok (.iload_n 1, 1) := by decide +kernel
theorem d_T_countBits_37 : decode b_T_countBits 37 = .ok (.ireturn, 1) := by decide +kernel
theorem d_T_countHolds_0 : decode b_T_countHolds 0 = .ok (.aload_n 0, 1) := by decide +kernel
theorem d_T_countHolds_1 : decode b_T_countHolds 1 = .ok (.getfield 15, 3) := by decide +kernel
theorem d_T_countHolds_4 : decode b_T_countHolds 4 = .ok (.invokestatic 25, 3) := by decide +kernel
theorem d_T_countHolds_7 : decode b_T_countHolds 7 = .ok (.ireturn, 1) := by decide +kernel
theorem d_T_countPoints_0 : decode b_T_countPoints 0 = .ok (.aload_n 0, 1) := by decide +kernel
theorem d_T_countPoints_1 : decode b_T_countPoints 1 = .ok (.getfield 11, 3) := by decide +kernel
theorem d_T_countPoints_4 : decode b_T_countPoints 4 = .ok (.invokestatic 25, 3) := by decide +kernel
theorem d_T_countPoints_7 : decode b_T_countPoints 7 = .ok (.ireturn, 1) := by decide +kernel
