theorem d_A_fill4_0 : decode b_A_fill4 0 = .ok (.aload_n 0, 1) := by decide +kernel
theorem d_A_fill4_1 : decode b_A_fill4 1 = .ok (.arraylength, 1) := by decide +kernel
theorem d_A_fill4_2 : decode b_A_fill4 2 = .ok (.iload_n 1, 1) := by decide +kernel
theorem d_A_fill4_3 : decode b_A_fill4 3 = .ok (.iload_n 2, 1) := by decide +kernel
theorem d_A_fill4_4 : decode b_A_fill4 4 = .ok (.invokestatic 13, 3) := by decide +kernel
theorem d_A_fill4_7 : decode b_A_fill4 7 = .ok (.iload_n 1, 1) := by decide +kernel
theorem d_A_fill4_8 : decode b_A_fill4 8 = .ok (.istore 4, 2) := by decide +kernel
theorem d_A_fill4_10 : decode b_A_fill4 10 = .ok (.iload 4, 2) := by decide +kernel
theorem d_A_fill4_12 : decode b_A_fill4 12 = .ok (.iload_n 2, 1) := by decide +kernel
theorem d_A_fill4_13 : decode b_A_fill4 13 = .ok (.if_icmp .ge 14, 3) := by decide +kernel
theorem d_A_fill4_16 : decode b_A_fill4 16 = .ok (.aload_n 0, 1) := by decide +kernel
theorem d_A_fill4_17 : decode b_A_fill4 17 = .ok (.iload 4, 2) := by decide +kernel
theorem d_A_fill4_19 : decode b_A_fill4 19 = .ok (.iload_n 3, 1) := by decide +kernel
theorem d_A_fill4_20 : decode b_A_fill4 20 = .ok (.iastore, 1) := by decide +kernel
theorem d_A_fill4_21 : decode b_A_fill4 21 = .ok (.iinc 4 1, 3) := by decide +kernel
theorem d_A_fill4_24 : decode b_A_fill4 24 = .ok (.goto (-14), 3) := by decide +kernel
theorem d_A_fill4_27 : decode b_A_fill4 27 = .ok (.return_, 1) := by decide +kernel
theorem d_A_rangeCheck_0 : decode b_A_rangeCheck 0 = .ok (.iload_n 1, 1) := by decide +kernel
theorem d_A_rangeCheck_1 : decode b_A_rangeCheck 1 = .ok (.iload_n 2, 1) := by decide +kernel
theorem d_A_rangeCheck_2 : decode b_A_rangeCheck 2 = .ok (.if_icmp .le 44, 3) := by decide +kernel
theorem d_A_rangeCheck_5 : decode b_A_rangeCheck 5 = .ok (.new 43, 3) := by decide +kernel
theorem d_A_rangeCheck_8 : decode b_A_rangeCheck 8 = .ok (.dup, 1) := by decide +kernel
theorem d_A_rangeCheck_9 : decode b_A_rangeCheck 9 = .ok (.new 45, 3) := by decide +kernel
theorem d_A_rangeCheck_12 : decode b_A_rangeCheck 12 = .ok (.dup, 1) := by decide +kernel
theorem d_A_rangeCheck_13 : decode b_A_rangeCheck 13 = .ok (.invokespecial 47, 3) := by decide +kernel
theorem d_A_rangeCheck_18 : decode b_A_rangeCheck 18 = .ok (.invokevirtual 50, 3) := by decide +kernel
theorem d_A_rangeCheck_21 : decode b_A_rangeCheck 21 = .ok (.iload_n 1, 1) := by decide +kernel
theorem d_A_rangeCheck_22 : decode b_A_rangeCheck 22 = .ok (.invokevirtual 54, 3) := by decide +kernel
theorem d_A_rangeCheck_27 : decode b_A_rangeCheck 27 = .ok (.invokevirtual 50, 3) := by decide +kernel
theorem d_A_rangeCheck_30 : decode b_A_rangeCheck 30 = .ok (.iload_n 2, 1) := by decide +kernel
theorem d_A_rangeCheck_31 : decode b_A_rangeCheck 31 = .ok (.invokevirtual 54, 3) := by decide +kernel
theorem d_A_rangeCheck_36 : decode b_A_rangeCheck 36 = .ok (.invokevirtual 50, 3) := by decide +kernel
theorem d_A_rangeCheck_39 : decode b_A_rangeCheck 39 = .ok (.invokevirtual 61, 3) := by decide +kernel
theorem d_A_rangeCheck_42 : decode b_A_rangeCheck 42 = .ok (.invokespecial 65, 3) := by decide +kernel
theorem d_A_rangeCheck_46 : decode b_A_rangeCheck 46 = .ok (.iload_n 1, 1) := by decide +kernel
theorem d_A_rangeCheck_47 : decode b_A_rangeCheck 47 = .ok (.ifCond .ge 12, 3) := by decide +kernel
theorem d_A_rangeCheck_50 : decode b_A_rangeCheck 50 = .ok (.new 68, 3) := by decide +kernel
theorem d_A_rangeCheck_53 : decode b_A_rangeCheck 53 = .ok (.dup, 1) := by decide +kernel
theorem d_A_rangeCheck_54 : decode b_A_rangeCheck 54 = .ok (.iload_n 1, 1) := by decide +kernel
theorem d_A_rangeCheck_55 : decode b_A_rangeCheck 55 = .ok (.invokespecial 70, 3) := by decide +kernel
theorem d_A_rangeCheck_59 : decode b_A_rangeCheck 59 = .ok (.iload_n 2, 1) := by decide +kernel
theorem d_A_rangeCheck_60 : decode b_A_rangeCheck 60 = .ok (.iload_n 0, 1) := by decide +kernel
theorem d_A_rangeCheck_61 : decode b_A_rangeCheck 61 = .ok (.if_icmp .le 12, 3) := by decide +kernel
theorem d_A_rangeCheck_64 : decode b_A_rangeCheck 64 = .ok (.new 68, 3) := by decide +kernel
theorem d_A_rangeCheck_67 : decode b_A_rangeCheck 67 = .ok (.dup, 1) := by decide +kernel
theorem d_A_rangeCheck_68 : decode b_A_rangeCheck 68 = .ok (.iload_n 2, 1) := by decide +kernel
theorem d_A_rangeCheck_69 : decode b_A_rangeCheck 69 = .ok (.invokespecial 70, 3) := by decide +kernel
theorem d_A_rangeCheck_73 : decode b_A_rangeCheck 73 = .ok (.return_, 1) := by decide +kernel
theorem d_D_begin_0 : decode b_D_begin 0 = .ok (.iconst 0, 1) := by decide +kernel
theorem d_D_begin_1 : decode b_D_begin 1 = .ok (.istore_n 3, 1) := by decide +kernel
theorem d_D_begin_2 : decode b_D_begin 2 = .ok (.iconst 2, 1) := by decide +kernel
theorem d_D_begin_3 : decode b_D_begin 3 = .ok (.istore 4, 2) := by decide +kernel
theorem d_D_begin_5 : decode b_D_begin 5 = .ok (.iload 4, 2) := by decide +kernel
theorem d_D_begin_7 : decode b_D_begin 7 = .ok (.ifCond .lt 42, 3) := by decide +kernel
theorem d_D_begin_10 : decode b_D_begin 10 = .ok (.getstatic 31, 3) := by decide +kernel
theorem d_D_begin_13 : decode b_D_begin 13 = .ok (.iload_n 2, 1) := by decide +kernel
theorem d_D_begin_14 : decode b_D_begin 14 = .ok (.iconst 3, 1) := by decide +kernel
theorem d_D_begin_15 : decode b_D_begin 15 = .ok (.imul, 1) := by decide +kernel
theorem d_D_begin_16 : decode b_D_begin 16 = .ok (.iload 4, 2) := by decide +kernel
theorem d_D_begin_18 : decode b_D_begin 18 = .ok (.iadd, 1) := by decide +kernel
theorem d_D_begin_19 : decode b_D_begin 19 = .ok (.iaload, 1) := by decide +kernel
theorem d_D_begin_20 : decode b_D_begin 20 = .ok (.istore 5, 2) := by decide +kernel
theorem d_D_begin_22 : decode b_D_begin 22 = .ok (.aload_n 0, 1) := by decide +kernel
theorem d_D_begin_23 : decode b_D_begin 23 = .ok (.getfield 11, 3) := by decide +kernel
theorem d_D_begin_26 : decode b_D_begin 26 = .ok (.iload 5, 2) := by decide +kernel
theorem d_D_begin_28 : decode b_D_begin 28 = .ok (.iload_n 3, 1) := by decide +kernel
theorem d_D_begin_29 : decode b_D_begin 29 = .ok (.iastore, 1) := by decide +kernel
theorem d_D_begin_30 : decode b_D_begin 30 = .ok (.iload_n 3, 1) := by decide +kernel
theorem d_D_begin_31 : decode b_D_begin 31 = .ok (.getstatic 34, 3) := by decide +kernel
theorem d_D_begin_34 : decode b_D_begin 34 = .ok (.iload_n 1, 1) := by decide +kernel
theorem d_D_begin_35 : decode b_D_begin 35 = .ok (.iconst 3, 1) := by decide +kernel
theorem d_D_begin_36 : decode b_D_begin 36 = .ok (.imul, 1) := by decide +kernel
theorem d_D_begin_37 : decode b_D_begin 37 = .ok (.iload 5, 2) := by decide +kernel
theorem d_D_begin_39 : decode b_D_begin 39 = .ok (.iadd, 1) := by decide +kernel
theorem d_D_begin_40 : decode b_D_begin 40 = .ok (.iaload, 1) := by decide +kernel
theorem d_D_begin_41 : decode b_D_begin 41 = .ok (.iadd, 1) := by decide +kernel
theorem d_D_begin_42 : decode b_D_begin 42 = .ok (.istore_n 3, 1) := by decide +kernel
theorem d_D_begin_43 : decode b_D_begin 43 = .ok (.iinc 4 (-1), 3) := by decide +kernel
theorem d_D_begin_46 : decode b_D_begin 46 = .ok (.goto (-41), 3) := by decide +kernel
theorem d_D_begin_49 : decode b_D_begin 49 = .ok (.aload_n 0, 1) := by decide +kernel
theorem d_D_begin_50 : decode b_D_begin 50 = .ok (.iconst 1, 1) := by decide +kernel
theorem d_D_begin_51 : decode b_D_begin 51 = .ok (.iload_n 3, 1) := by decide +kernel
theorem d_D_begin_52 : decode b_D_begin 52 = .ok (.ishl, 1) := by decide +kernel
theorem d_D_begin_53 : decode b_D_begin 53 = .ok (.putfield 18, 3) := by decide +kernel
theorem d_D_begin_56 : decode b_D_begin 56 = .ok (.aload_n 0, 1) := by decide +kernel
theorem d_D_begin_57 : decode b_D_begin 57 = .ok (.getfield 15, 3) := by decide +kernel
theorem d_D_begin_60 : decode b_D_begin 60 = .ok (.iconst 0, 1) := by decide +kernel
theorem d_D_begin_61 : decode b_D_begin 61 = .ok (.aload_n 0, 1) := by decide +kernel
theorem d_D_begin_62 : decode b_D_begin 62 = .ok (.getfield 18, 3) := by decide +kernel
theorem d_D_begin_65 : decode b_D_begin 65 = .ok (.iconst 0, 1) := by decide +kernel
theorem d_D_begin_66 : decode b_D_begin 66 = .ok (.invokestatic 37, 3) := by decide +kernel
theorem d_D_begin_69 : decode b_D_begin 69 = .ok (.return_, 1) := by decide +kernel
theorem d_D_drawRows_0 : decode b_D_drawRows 0 = .ok (.iload_n 3, 1) := by decide +kernel
theorem d_D_drawRows_1 : decode b_D_drawRows 1 = .ok (.ifCond .ne 4, 3) := by decide +kernel
theorem d_D_drawRows_4 : decode b_D_drawRows 4 = .ok (.return_, 1) := by decide +kernel
theorem d_D_drawRows_5 : decode b_D_drawRows 5 = .ok (.iload_n 1, 1) := by decide +kernel
theorem d_D_drawRows_6 : decode b_D_drawRows 6 = .ok (.aload_n 0, 1) := by decide +kernel
theorem d_D_drawRows_7 : decode b_D_drawRows 7 = .ok (.getfield 11, 3) := by decide +kernel
theorem d_D_drawRows_10 : decode b_D_drawRows 10 = .ok (.iconst 0, 1) := by decide +kernel
theorem d_D_drawRows_11 : decode b_D_drawRows 11 = .ok (.iaload, 1) := by decide +kernel
theorem d_D_drawRows_12 : decode b_D_drawRows 12 = .ok (.ishl, 1) := by decide +kernel
theorem d_D_drawRows_13 : decode b_D_drawRows 13 = .ok (.iload_n 2, 1) := by decide +kernel
theorem d_D_drawRows_14 : decode b_D_drawRows 14 = .ok (.aload_n 0, 1) := by decide +kernel
theorem d_D_drawRows_15 : decode b_D_drawRows 15 = .ok (.getfield 11, 3) := by decide +kernel
theorem d_D_drawRows_18 : decode b_D_drawRows 18 = .ok (.iconst 1, 1) := by decide +kernel
theorem d_D_drawRows_19 : decode b_D_drawRows 19 = .ok (.iaload, 1) := by decide +kernel
theorem d_D_drawRows_20 : decode b_D_drawRows 20 = .ok (.ishl, 1) := by decide +kernel
theorem d_D_drawRows_21 : decode b_D_drawRows 21 = .ok (.iadd, 1) := by decide +kernel
theorem d_D_drawRows_22 : decode b_D_drawRows 22 = .ok (.istore 4, 2) := by decide +kernel
theorem d_D_drawRows_24 : decode b_D_drawRows 24 = .ok (.iconst 0, 1) := by decide +kernel
theorem d_D_drawRows_25 : decode b_D_drawRows 25 = .ok (.istore 5, 2) := by decide +kernel
theorem d_D_drawRows_27 : decode b_D_drawRows 27 = .ok (.iload 5, 2) := by decide +kernel
theorem d_D_drawRows_29 : decode b_D_drawRows 29 = .ok (.bipush 8, 2) := by decide +kernel
theorem d_D_drawRows_31 : decode b_D_drawRows 31 = .ok (.if_icmp .ge 32, 3) := by decide +kernel
theorem d_D_drawRows_34 : decode b_D_drawRows 34 = .ok (.aload_n 0, 1) := by decide +kernel
theorem d_D_drawRows_35 : decode b_D_drawRows 35 = .ok (.getfield 15, 3) := by decide +kernel
theorem d_D_drawRows_38 : decode b_D_drawRows 38 = .ok (.iload 4, 2) := by decide +kernel
theorem d_D_drawRows_40 : decode b_D_drawRows 40 = .ok (.iload 5, 2) := by decide +kernel
theorem d_D_drawRows_42 : decode b_D_drawRows 42 = .ok (.aload_n 0, 1) := by decide +kernel
theorem d_D_drawRows_43 : decode b_D_drawRows 43 = .ok (.getfield 11, 3) := by decide +kernel
theorem d_D_drawRows_46 : decode b_D_drawRows 46 = .ok (.iconst 2, 1) := by decide +kernel
theorem d_D_drawRows_47 : decode b_D_drawRows 47 = .ok (.iaload, 1) := by decide +kernel
theorem d_D_drawRows_48 : decode b_D_drawRows 48 = .ok (.ishl, 1) := by decide +kernel
theorem d_D_drawRows_49 : decode b_D_drawRows 49 = .ok (.iadd, 1) := by decide +kernel
theorem d_D_drawRows_50 : decode b_D_drawRows 50 = .ok (.iload_n 3, 1) := by decide +kernel
theorem d_D_drawRows_51 : decode b_D_drawRows 51 = .ok (.iload 5, 2) := by decide +kernel
theorem d_D_drawRows_53 : decode b_D_drawRows 53 = .ok (.ishr, 1) := by decide +kernel
theorem d_D_drawRows_54 : decode b_D_drawRows 54 = .ok (.iconst 1, 1) := by decide +kernel
theorem d_D_drawRows_55 : decode b_D_drawRows 55 = .ok (.iand, 1) := by decide +kernel
theorem d_D_drawRows_56 : decode b_D_drawRows 56 = .ok (.iastore, 1) := by decide +kernel
theorem d_D_drawRows_57 : decode b_D_drawRows 57 = .ok (.iinc 5 1, 3) := by decide +kernel
theorem d_D_drawRows_60 : decode b_D_drawRows 60 = .ok (.goto (-33), 3) := by decide +kernel
theorem d_D_drawRows_63 : decode b_D_drawRows 63 = .ok (.return_, 1) := by decide +kernel
theorem d_T_drawHolds_0 : decode b_T_drawHolds 0 = .ok (.aload_n 1, 1) := by decide +kernel
theorem d_T_drawHolds_1 : decode b_T_drawHolds 1 = .ok (.iconst 1, 1) := by decide +kernel
theorem d_T_drawHolds_2 : decode b_T_drawHolds 2 = .ok (.iload_n 2, 1) := by decide +kernel
theorem d_T_drawHolds_3 : decode b_T_drawHolds 3 = .ok (.invokevirtual 139, 3) := by decide +kernel
theorem d_T_drawHolds_6 : decode b_T_drawHolds 6 = .ok (.iconst 0, 1) := by decide +kernel
theorem d_T_drawHolds_7 : decode b_T_drawHolds 7 = .ok (.istore_n 3, 1) := by decide +kernel
theorem d_T_drawHolds_8 : decode b_T_drawHolds 8 = .ok (.iload_n 3, 1) := by decide +kernel
theorem d_T_drawHolds_9 : decode b_T_drawHolds 9 = .ok (.bipush 8, 2) := by decide +kernel
theorem d_T_drawHolds_11 : decode b_T_drawHolds 11 = .ok (.if_icmp .ge 38, 3) := by decide +kernel
theorem d_T_drawHolds_14 : decode b_T_drawHolds 14 = .ok (.iconst 0, 1) := by decide +kernel
theorem d_T_drawHolds_15 : decode b_T_drawHolds 15 = .ok (.istore 4, 2) := by decide +kernel
theorem d_T_drawHolds_17 : decode b_T_drawHolds 17 = .ok (.iload 4, 2) := by decide +kernel
theorem d_T_drawHolds_19 : decode b_T_drawHolds 19 = .ok (.iconst 2, 1) := by decide +kernel
theorem d_T_drawHolds_20 : decode b_T_drawHolds 20 = .ok (.if_icmp .ge 23, 3) := by decide +kernel
theorem d_T_drawHolds_23 : decode b_T_drawHolds 23 = .ok (.aload_n 1, 1) := by decide +kernel
theorem d_T_drawHolds_24 : decode b_T_drawHolds 24 = .ok (.iload_n 3, 1) := by decide +kernel
theorem d_T_drawHolds_25 : decode b_T_drawHolds 25 = .ok (.iload 4, 2) := by decide +kernel
theorem d_T_drawHolds_27 : decode b_T_drawHolds 27 = .ok (.aload_n 0, 1) := by decide +kernel
theorem d_T_drawHolds_28 : decode b_T_drawHolds 28 = .ok (.iload_n 3, 1) := by decide +kernel
theorem d_T_drawHolds_29 : decode b_T_drawHolds 29 = .ok (.iload 4, 2) := by decide +kernel
theorem d_T_drawHolds_31 : decode b_T_drawHolds 31 = .ok (.invokevirtual 136, 3) := by decide +kernel
theorem d_T_drawHolds_34 : decode b_T_drawHolds 34 = .ok (.invokevirtual 145, 3) := by decide +kernel
theorem d_T_drawHolds_37 : decode b_T_drawHolds 37 = .ok (.iinc 4 1, 3) := by decide +kernel
theorem d_T_drawHolds_40 : decode b_T_drawHolds 40 = .ok (.goto (-23), 3) := by decide +kernel
theorem d_T_drawHolds_43 : decode b_T_drawHolds 43 = .ok (.iinc 3 1, 3) := by decide +kernel
theorem d_T_drawHolds_46 : decode b_T_drawHolds 46 = .ok (.goto (-38), 3) := by decide +kernel
theorem d_T_drawHolds_49 : decode b_T_drawHolds 49 = .ok (.return_, 1) := by decide +kernel
theorem d_T_drawPoints_0 : decode b_T_drawPoints 0 = .ok (.aload_n 1, 1) := by decide +kernel
theorem d_T_drawPoints_1 : decode b_T_drawPoints 1 = .ok (.iconst 0, 1) := by decide +kernel
theorem d_T_drawPoints_2 : decode b_T_drawPoints 2 = .ok (.iload_n 2, 1) := by decide +kernel
theorem d_T_drawPoints_3 : decode b_T_drawPoints 3 = .ok (.invokevirtual 139, 3) := by decide +kernel
theorem d_T_drawPoints_6 : decode b_T_drawPoints 6 = .ok (.iconst 0, 1) := by decide +kernel
theorem d_T_drawPoints_7 : decode b_T_drawPoints 7 = .ok (.istore_n 3, 1) := by decide +kernel
theorem d_T_drawPoints_8 : decode b_T_drawPoints 8 = .ok (.iload_n 3, 1) := by decide +kernel
theorem d_T_drawPoints_9 : decode b_T_drawPoints 9 = .ok (.bipush 8, 2) := by decide +kernel
theorem d_T_drawPoints_11 : decode b_T_drawPoints 11 = .ok (.if_icmp .ge 39, 3) := by decide +kernel
theorem d_T_drawPoints_14 : decode b_T_drawPoints 14 = .ok (.iconst 0, 1) := by decide +kernel
theorem d_T_drawPoints_15 : decode b_T_drawPoints 15 = .ok (.istore 4, 2) := by decide +kernel
theorem d_T_drawPoints_17 : decode b_T_drawPoints 17 = .ok (.iload 4, 2) := by decide +kernel
theorem d_T_drawPoints_19 : decode b_T_drawPoints 19 = .ok (.bipush 16, 2) := by decide +kernel
theorem d_T_drawPoints_21 : decode b_T_drawPoints 21 = .ok (.if_icmp .ge 23, 3) := by decide +kernel
theorem d_T_drawPoints_24 : decode b_T_drawPoints 24 = .ok (.aload_n 1, 1) := by decide +kernel
theorem d_T_drawPoints_25 : decode b_T_drawPoints 25 = .ok (.iload_n 3, 1) := by decide +kernel
theorem d_T_drawPoints_26 : decode b_T_drawPoints 26 = .ok (.iload 4, 2) := by decide +kernel
theorem d_T_drawPoints_28 : decode b_T_drawPoints 28 = .ok (.aload_n 0, 1) := by decide +kernel
theorem d_T_drawPoints_29 : decode b_T_drawPoints 29 = .ok (.iload_n 3, 1) := by decide +kernel
theorem d_T_drawPoints_30 : decode b_T_drawPoints 30 = .ok (.iload 4, 2) := by decide +kernel
theorem d_T_drawPoints_32 : decode b_T_drawPoints 32 = .ok (.invokevirtual 96, 3) := by decide +kernel
theorem d_T_drawPoints_35 : decode b_T_drawPoints 35 = .ok (.invokevirtual 145, 3) := by decide +kernel
theorem d_T_drawPoints_38 : decode b_T_drawPoints 38 = .ok (.iinc 4 1, 3) := by decide +kernel
theorem d_T_drawPoints_41 : decode b_T_drawPoints 41 = .ok (.goto (-24), 3) := by decide +kernel
theorem d_T_drawPoints_44 : decode b_T_drawPoints 44 = .ok (.iinc 3 1, 3) := by decide +kernel
theorem d_T_drawPoints_47 : decode b_T_drawPoints 47 = .ok (.goto (-39), 3) := by decide +kernel
theorem d_T_drawPoints_50 : decode b_T_drawPoints 50 = .ok (.return_, 1) := by decide +kernel
