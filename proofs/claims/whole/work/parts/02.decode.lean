theorem d_A_fill_0 : decode b_A_fill 0 = .ok (.iconst 0, 1) := by decide +kernel
theorem d_A_fill_1 : decode b_A_fill 1 = .ok (.istore_n 2, 1) := by decide +kernel
theorem d_A_fill_2 : decode b_A_fill 2 = .ok (.aload_n 0, 1) := by decide +kernel
theorem d_A_fill_3 : decode b_A_fill 3 = .ok (.arraylength, 1) := by decide +kernel
theorem d_A_fill_4 : decode b_A_fill 4 = .ok (.istore_n 3, 1) := by decide +kernel
theorem d_A_fill_5 : decode b_A_fill 5 = .ok (.iload_n 2, 1) := by decide +kernel
theorem d_A_fill_6 : decode b_A_fill 6 = .ok (.iload_n 3, 1) := by decide +kernel
theorem d_A_fill_7 : decode b_A_fill 7 = .ok (.if_icmp .ge 13, 3) := by decide +kernel
theorem d_A_fill_10 : decode b_A_fill 10 = .ok (.aload_n 0, 1) := by decide +kernel
theorem d_A_fill_11 : decode b_A_fill 11 = .ok (.iload_n 2, 1) := by decide +kernel
theorem d_A_fill_12 : decode b_A_fill 12 = .ok (.iload_n 1, 1) := by decide +kernel
theorem d_A_fill_13 : decode b_A_fill 13 = .ok (.iastore, 1) := by decide +kernel
theorem d_A_fill_14 : decode b_A_fill 14 = .ok (.iinc 2 1, 3) := by decide +kernel
theorem d_A_fill_17 : decode b_A_fill 17 = .ok (.goto (-12), 3) := by decide +kernel
theorem d_A_fill_20 : decode b_A_fill 20 = .ok (.return_, 1) := by decide +kernel
theorem d_D_countNodes_0 : decode b_D_countNodes 0 = .ok (.iconst 0, 1) := by decide +kernel
theorem d_D_countNodes_1 : decode b_D_countNodes 1 = .ok (.istore_n 1, 1) := by decide +kernel
theorem d_D_countNodes_2 : decode b_D_countNodes 2 = .ok (.aload_n 0, 1) := by decide +kernel
theorem d_D_countNodes_3 : decode b_D_countNodes 3 = .ok (.getfield 18, 3) := by decide +kernel
theorem d_D_countNodes_6 : decode b_D_countNodes 6 = .ok (.iconst 2, 1) := by decide +kernel
theorem d_D_countNodes_7 : decode b_D_countNodes 7 = .ok (.idiv, 1) := by decide +kernel
theorem d_D_countNodes_8 : decode b_D_countNodes 8 = .ok (.istore_n 2, 1) := by decide +kernel
theorem d_D_countNodes_9 : decode b_D_countNodes 9 = .ok (.iload_n 2, 1) := by decide +kernel
theorem d_D_countNodes_10 : decode b_D_countNodes 10 = .ok (.ifCond .le 25, 3) := by decide +kernel
theorem d_D_countNodes_13 : decode b_D_countNodes 13 = .ok (.aload_n 0, 1) := by decide +kernel
theorem d_D_countNodes_14 : decode b_D_countNodes 14 = .ok (.iload_n 2, 1) := by decide +kernel
theorem d_D_countNodes_15 : decode b_D_countNodes 15 = .ok (.iconst 2, 1) := by decide +kernel
theorem d_D_countNodes_16 : decode b_D_countNodes 16 = .ok (.iload_n 1, 1) := by decide +kernel
theorem d_D_countNodes_17 : decode b_D_countNodes 17 = .ok (.iadd, 1) := by decide +kernel
theorem d_D_countNodes_18 : decode b_D_countNodes 18 = .ok (.invokevirtual 43, 3) := by decide +kernel
theorem d_D_countNodes_21 : decode b_D_countNodes 21 = .ok (.iload_n 1, 1) := by decide +kernel
theorem d_D_countNodes_22 : decode b_D_countNodes 22 = .ok (.aload_n 0, 1) := by decide +kernel
theorem d_D_countNodes_23 : decode b_D_countNodes 23 = .ok (.getfield 28, 3) := by decide +kernel
theorem d_D_countNodes_26 : decode b_D_countNodes 26 = .ok (.iadd, 1) := by decide +kernel
theorem d_D_countNodes_27 : decode b_D_countNodes 27 = .ok (.istore_n 1, 1) := by decide +kernel
theorem d_D_countNodes_28 : decode b_D_countNodes 28 = .ok (.iload_n 2, 1) := by decide +kernel
theorem d_D_countNodes_29 : decode b_D_countNodes 29 = .ok (.iconst 2, 1) := by decide +kernel
theorem d_D_countNodes_30 : decode b_D_countNodes 30 = .ok (.idiv, 1) := by decide +kernel
theorem d_D_countNodes_31 : decode b_D_countNodes 31 = .ok (.istore_n 2, 1) := by decide +kernel
theorem d_D_countNodes_32 : decode b_D_countNodes 32 = .ok (.goto (-23), 3) := by decide +kernel
theorem d_D_countNodes_35 : decode b_D_countNodes 35 = .ok (.iload_n 1, 1) := by decide +kernel
theorem d_D_countNodes_36 : decode b_D_countNodes 36 = .ok (.ireturn, 1) := by decide +kernel
theorem d_D_findNode_0 : decode b_D_findNode 0 = .ok (.iconst 0, 1) := by decide +kernel
theorem d_D_findNode_1 : decode b_D_findNode 1 = .ok (.istore_n 3, 1) := by decide +kernel
theorem d_D_findNode_2 : decode b_D_findNode 2 = .ok (.iload_n 3, 1) := by decide +kernel
theorem d_D_findNode_3 : decode b_D_findNode 3 = .ok (.aload_n 0, 1) := by decide +kernel
theorem d_D_findNode_4 : decode b_D_findNode 4 = .ok (.getfield 28, 3) := by decide +kernel
theorem d_D_findNode_7 : decode b_D_findNode 7 = .ok (.if_icmp .ge 31, 3) := by decide +kernel
theorem d_D_findNode_10 : decode b_D_findNode 10 = .ok (.aload_n 0, 1) := by decide +kernel
theorem d_D_findNode_11 : decode b_D_findNode 11 = .ok (.getfield 22, 3) := by decide +kernel
theorem d_D_findNode_14 : decode b_D_findNode 14 = .ok (.iload_n 3, 1) := by decide +kernel
theorem d_D_findNode_15 : decode b_D_findNode 15 = .ok (.iaload, 1) := by decide +kernel
theorem d_D_findNode_16 : decode b_D_findNode 16 = .ok (.iload_n 1, 1) := by decide +kernel
theorem d_D_findNode_17 : decode b_D_findNode 17 = .ok (.if_icmp .ne 15, 3) := by decide +kernel
theorem d_D_findNode_20 : decode b_D_findNode 20 = .ok (.aload_n 0, 1) := by decide +kernel
theorem d_D_findNode_21 : decode b_D_findNode 21 = .ok (.getfield 25, 3) := by decide +kernel
theorem d_D_findNode_24 : decode b_D_findNode 24 = .ok (.iload_n 3, 1) := by decide +kernel
theorem d_D_findNode_25 : decode b_D_findNode 25 = .ok (.iaload, 1) := by decide +kernel
theorem d_D_findNode_26 : decode b_D_findNode 26 = .ok (.iload_n 2, 1) := by decide +kernel
theorem d_D_findNode_27 : decode b_D_findNode 27 = .ok (.if_icmp .ne 5, 3) := by decide +kernel
theorem d_D_findNode_30 : decode b_D_findNode 30 = .ok (.iload_n 3, 1) := by decide +kernel
theorem d_D_findNode_31 : decode b_D_findNode 31 = .ok (.ireturn, 1) := by decide +kernel
theorem d_D_findNode_32 : decode b_D_findNode 32 = .ok (.iinc 3 1, 3) := by decide +kernel
theorem d_D_findNode_35 : decode b_D_findNode 35 = .ok (.goto (-33), 3) := by decide +kernel
theorem d_D_findNode_38 : decode b_D_findNode 38 = .ok (.aload_n 0, 1) := by decide +kernel
theorem d_D_findNode_39 : decode b_D_findNode 39 = .ok (.getfield 22, 3) := by decide +kernel
theorem d_D_findNode_42 : decode b_D_findNode 42 = .ok (.aload_n 0, 1) := by decide +kernel
theorem d_D_findNode_43 : decode b_D_findNode 43 = .ok (.getfield 28, 3) := by decide +kernel
theorem d_D_findNode_46 : decode b_D_findNode 46 = .ok (.iload_n 1, 1) := by decide +kernel
theorem d_D_findNode_47 : decode b_D_findNode 47 = .ok (.iastore, 1) := by decide +kernel
theorem d_D_findNode_48 : decode b_D_findNode 48 = .ok (.aload_n 0, 1) := by decide +kernel
theorem d_D_findNode_49 : decode b_D_findNode 49 = .ok (.getfield 25, 3) := by decide +kernel
theorem d_D_findNode_52 : decode b_D_findNode 52 = .ok (.aload_n 0, 1) := by decide +kernel
theorem d_D_findNode_53 : decode b_D_findNode 53 = .ok (.getfield 28, 3) := by decide +kernel
theorem d_D_findNode_56 : decode b_D_findNode 56 = .ok (.iload_n 2, 1) := by decide +kernel
theorem d_D_findNode_57 : decode b_D_findNode 57 = .ok (.iastore, 1) := by decide +kernel
theorem d_D_findNode_58 : decode b_D_findNode 58 = .ok (.aload_n 0, 1) := by decide +kernel
theorem d_D_findNode_59 : decode b_D_findNode 59 = .ok (.dup, 1) := by decide +kernel
theorem d_D_findNode_60 : decode b_D_findNode 60 = .ok (.getfield 28, 3) := by decide +kernel
theorem d_D_findNode_63 : decode b_D_findNode 63 = .ok (.iconst 1, 1) := by decide +kernel
theorem d_D_findNode_64 : decode b_D_findNode 64 = .ok (.iadd, 1) := by decide +kernel
theorem d_D_findNode_65 : decode b_D_findNode 65 = .ok (.putfield 28, 3) := by decide +kernel
theorem d_D_findNode_68 : decode b_D_findNode 68 = .ok (.aload_n 0, 1) := by decide +kernel
theorem d_D_findNode_69 : decode b_D_findNode 69 = .ok (.getfield 28, 3) := by decide +kernel
theorem d_D_findNode_72 : decode b_D_findNode 72 = .ok (.iconst 1, 1) := by decide +kernel
theorem d_D_findNode_73 : decode b_D_findNode 73 = .ok (.isub, 1) := by decide +kernel
theorem d_D_findNode_74 : decode b_D_findNode 74 = .ok (.ireturn, 1) := by decide +kernel
theorem d_D_joinPairs_0 : decode b_D_joinPairs 0 = .ok (.aload_n 0, 1) := by decide +kernel
theorem d_D_joinPairs_1 : decode b_D_joinPairs 1 = .ok (.iconst 0, 1) := by decide +kernel
theorem d_D_joinPairs_2 : decode b_D_joinPairs 2 = .ok (.putfield 28, 3) := by decide +kernel
theorem d_D_joinPairs_5 : decode b_D_joinPairs 5 = .ok (.iconst 0, 1) := by decide +kernel
theorem d_D_joinPairs_6 : decode b_D_joinPairs 6 = .ok (.istore_n 3, 1) := by decide +kernel
theorem d_D_joinPairs_7 : decode b_D_joinPairs 7 = .ok (.iload_n 3, 1) := by decide +kernel
theorem d_D_joinPairs_8 : decode b_D_joinPairs 8 = .ok (.iload_n 1, 1) := by decide +kernel
theorem d_D_joinPairs_9 : decode b_D_joinPairs 9 = .ok (.if_icmp .ge 59, 3) := by decide +kernel
theorem d_D_joinPairs_12 : decode b_D_joinPairs 12 = .ok (.aload_n 0, 1) := by decide +kernel
theorem d_D_joinPairs_13 : decode b_D_joinPairs 13 = .ok (.getfield 15, 3) := by decide +kernel
theorem d_D_joinPairs_16 : decode b_D_joinPairs 16 = .ok (.iconst 2, 1) := by decide +kernel
theorem d_D_joinPairs_17 : decode b_D_joinPairs 17 = .ok (.iload_n 3, 1) := by decide +kernel
theorem d_D_joinPairs_18 : decode b_D_joinPairs 18 = .ok (.imul, 1) := by decide +kernel
theorem d_D_joinPairs_19 : decode b_D_joinPairs 19 = .ok (.iaload, 1) := by decide +kernel
theorem d_D_joinPairs_20 : decode b_D_joinPairs 20 = .ok (.istore 4, 2) := by decide +kernel
theorem d_D_joinPairs_22 : decode b_D_joinPairs 22 = .ok (.aload_n 0, 1) := by decide +kernel
theorem d_D_joinPairs_23 : decode b_D_joinPairs 23 = .ok (.getfield 15, 3) := by decide +kernel
theorem d_D_joinPairs_26 : decode b_D_joinPairs 26 = .ok (.iconst 2, 1) := by decide +kernel
theorem d_D_joinPairs_27 : decode b_D_joinPairs 27 = .ok (.iload_n 3, 1) := by decide +kernel
theorem d_D_joinPairs_28 : decode b_D_joinPairs 28 = .ok (.imul, 1) := by decide +kernel
theorem d_D_joinPairs_29 : decode b_D_joinPairs 29 = .ok (.iconst 1, 1) := by decide +kernel
theorem d_D_joinPairs_30 : decode b_D_joinPairs 30 = .ok (.iadd, 1) := by decide +kernel
theorem d_D_joinPairs_31 : decode b_D_joinPairs 31 = .ok (.iaload, 1) := by decide +kernel
theorem d_D_joinPairs_32 : decode b_D_joinPairs 32 = .ok (.istore 5, 2) := by decide +kernel
theorem d_D_joinPairs_34 : decode b_D_joinPairs 34 = .ok (.aload_n 0, 1) := by decide +kernel
theorem d_D_joinPairs_35 : decode b_D_joinPairs 35 = .ok (.getfield 15, 3) := by decide +kernel
theorem d_D_joinPairs_38 : decode b_D_joinPairs 38 = .ok (.iload_n 3, 1) := by decide +kernel
theorem d_D_joinPairs_39 : decode b_D_joinPairs 39 = .ok (.iload 4, 2) := by decide +kernel
theorem d_D_joinPairs_41 : decode b_D_joinPairs 41 = .ok (.iload 5, 2) := by decide +kernel
theorem d_D_joinPairs_43 : decode b_D_joinPairs 43 = .ok (.if_icmp .ne 8, 3) := by decide +kernel
theorem d_D_joinPairs_46 : decode b_D_joinPairs 46 = .ok (.iload 4, 2) := by decide +kernel
theorem d_D_joinPairs_48 : decode b_D_joinPairs 48 = .ok (.goto 13, 3) := by decide +kernel
theorem d_D_joinPairs_51 : decode b_D_joinPairs 51 = .ok (.iload_n 2, 1) := by decide +kernel
theorem d_D_joinPairs_52 : decode b_D_joinPairs 52 = .ok (.aload_n 0, 1) := by decide +kernel
theorem d_D_joinPairs_53 : decode b_D_joinPairs 53 = .ok (.iload 4, 2) := by decide +kernel
theorem d_D_joinPairs_55 : decode b_D_joinPairs 55 = .ok (.iload 5, 2) := by decide +kernel
theorem d_D_joinPairs_57 : decode b_D_joinPairs 57 = .ok (.invokevirtual 47, 3) := by decide +kernel
theorem d_D_joinPairs_60 : decode b_D_joinPairs 60 = .ok (.iadd, 1) := by decide +kernel
theorem d_D_joinPairs_61 : decode b_D_joinPairs 61 = .ok (.iastore, 1) := by decide +kernel
theorem d_D_joinPairs_62 : decode b_D_joinPairs 62 = .ok (.iinc 3 1, 3) := by decide +kernel
theorem d_D_joinPairs_65 : decode b_D_joinPairs 65 = .ok (.goto (-58), 3) := by decide +kernel
theorem d_D_joinPairs_68 : decode b_D_joinPairs 68 = .ok (.return_, 1) := by decide +kernel
theorem d_G_addCall_0 : decode b_G_addCall 0 = .ok (.aload_n 0, 1) := by decide +kernel
theorem d_G_addCall_1 : decode b_G_addCall 1 = .ok (.getfield 34, 3) := by decide +kernel
theorem d_G_addCall_4 : decode b_G_addCall 4 = .ok (.bipush 8, 2) := by decide +kernel
theorem d_G_addCall_6 : decode b_G_addCall 6 = .ok (.if_icmp .lt 6, 3) := by decide +kernel
theorem d_G_addCall_9 : decode b_G_addCall 9 = .ok (.bipush (-2), 2) := by decide +kernel
theorem d_G_addCall_11 : decode b_G_addCall 11 = .ok (.ireturn, 1) := by decide +kernel
theorem d_G_addCall_12 : decode b_G_addCall 12 = .ok (.aload_n 0, 1) := by decide +kernel
theorem d_G_addCall_13 : decode b_G_addCall 13 = .ok (.getfield 37, 3) := by decide +kernel
theorem d_G_addCall_16 : decode b_G_addCall 16 = .ok (.aload_n 0, 1) := by decide +kernel
theorem d_G_addCall_17 : decode b_G_addCall 17 = .ok (.getfield 34, 3) := by decide +kernel
theorem d_G_addCall_20 : decode b_G_addCall 20 = .ok (.iload_n 1, 1) := by decide +kernel
theorem d_G_addCall_21 : decode b_G_addCall 21 = .ok (.iastore, 1) := by decide +kernel
theorem d_G_addCall_22 : decode b_G_addCall 22 = .ok (.aload_n 0, 1) := by decide +kernel
theorem d_G_addCall_23 : decode b_G_addCall 23 = .ok (.getfield 40, 3) := by decide +kernel
theorem d_G_addCall_26 : decode b_G_addCall 26 = .ok (.aload_n 0, 1) := by decide +kernel
theorem d_G_addCall_27 : decode b_G_addCall 27 = .ok (.getfield 34, 3) := by decide +kernel
theorem d_G_addCall_30 : decode b_G_addCall 30 = .ok (.iload_n 2, 1) := by decide +kernel
theorem d_G_addCall_31 : decode b_G_addCall 31 = .ok (.iastore, 1) := by decide +kernel
theorem d_G_addCall_32 : decode b_G_addCall 32 = .ok (.aload_n 0, 1) := by decide +kernel
theorem d_G_addCall_33 : decode b_G_addCall 33 = .ok (.dup, 1) := by decide +kernel
theorem d_G_addCall_34 : decode b_G_addCall 34 = .ok (.getfield 34, 3) := by decide +kernel
theorem d_G_addCall_37 : decode b_G_addCall 37 = .ok (.iconst 1, 1) := by decide +kernel
theorem d_G_addCall_38 : decode b_G_addCall 38 = .ok (.iadd, 1) := by decide +kernel
theorem d_G_addCall_39 : decode b_G_addCall 39 = .ok (.putfield 34, 3) := by decide +kernel
theorem d_G_addCall_42 : decode b_G_addCall 42 = .ok (.aload_n 0, 1) := by decide +kernel
theorem d_G_addCall_43 : decode b_G_addCall 43 = .ok (.getfield 34, 3) := by decide +kernel
theorem d_G_addCall_46 : decode b_G_addCall 46 = .ok (.iconst 1, 1) := by decide +kernel
theorem d_G_addCall_47 : decode b_G_addCall 47 = .ok (.isub, 1) := by decide +kernel
theorem d_G_addCall_48 : decode b_G_addCall 48 = .ok (.ireturn, 1) := by decide +kernel
theorem d_G_addPass_0 : decode b_G_addPass 0 = .ok (.aload_n 0, 1) := by decide +kernel
theorem d_G_addPass_1 : decode b_G_addPass 1 = .ok (.getfield 43, 3) := by decide +kernel
theorem d_G_addPass_4 : decode b_G_addPass 4 = .ok (.iload_n 1, 1) := by decide +kernel
theorem d_G_addPass_5 : decode b_G_addPass 5 = .ok (.iaload, 1) := by decide +kernel
theorem d_G_addPass_6 : decode b_G_addPass 6 = .ok (.iconst 4, 1) := by decide +kernel
theorem d_G_addPass_7 : decode b_G_addPass 7 = .ok (.if_icmp .lt 6, 3) := by decide +kernel
theorem d_G_addPass_10 : decode b_G_addPass 10 = .ok (.bipush (-2), 2) := by decide +kernel
theorem d_G_addPass_12 : decode b_G_addPass 12 = .ok (.ireturn, 1) := by decide +kernel
theorem d_G_addPass_13 : decode b_G_addPass 13 = .ok (.iload_n 1, 1) := by decide +kernel
theorem d_G_addPass_14 : decode b_G_addPass 14 = .ok (.iconst 4, 1) := by decide +kernel
theorem d_G_addPass_15 : decode b_G_addPass 15 = .ok (.imul, 1) := by decide +kernel
theorem d_G_addPass_16 : decode b_G_addPass 16 = .ok (.aload_n 0, 1) := by decide +kernel
theorem d_G_addPass_17 : decode b_G_addPass 17 = .ok (.getfield 43, 3) := by decide +kernel
theorem d_G_addPass_20 : decode b_G_addPass 20 = .ok (.iload_n 1, 1) := by decide +kernel
theorem d_G_addPass_21 : decode b_G_addPass 21 = .ok (.iaload, 1) := by decide +kernel
theorem d_G_addPass_22 : decode b_G_addPass 22 = .ok (.iadd, 1) := by decide +kernel
theorem d_G_addPass_23 : decode b_G_addPass 23 = .ok (.istore 5, 2) := by decide +kernel
theorem d_G_addPass_25 : decode b_G_addPass 25 = .ok (.aload_n 0, 1) := by decide +kernel
theorem d_G_addPass_26 : decode b_G_addPass 26 = .ok (.getfield 46, 3) := by decide +kernel
theorem d_G_addPass_29 : decode b_G_addPass 29 = .ok (.iload 5, 2) := by decide +kernel
theorem d_G_addPass_31 : decode b_G_addPass 31 = .ok (.iload_n 2, 1) := by decide +kernel
theorem d_G_addPass_32 : decode b_G_addPass 32 = .ok (.iastore, 1) := by decide +kernel
theorem d_G_addPass_33 : decode b_G_addPass 33 = .ok (.aload_n 0, 1) := by decide +kernel
theorem d_G_addPass_34 : decode b_G_addPass 34 = .ok (.getfield 49, 3) := by decide +kernel
theorem d_G_addPass_37 : decode b_G_addPass 37 = .ok (.iload 5, 2) := by decide +kernel
theorem d_G_addPass_39 : decode b_G_addPass 39 = .ok (.iload_n 3, 1) := by decide +kernel
theorem d_G_addPass_40 : decode b_G_addPass 40 = .ok (.iastore, 1) := by decide +kernel
theorem d_G_addPass_41 : decode b_G_addPass 41 = .ok (.aload_n 0, 1) := by decide +kernel
theorem d_G_addPass_42 : decode b_G_addPass 42 = .ok (.getfield 52, 3) := by decide +kernel
theorem d_G_addPass_45 : decode b_G_addPass 45 = .ok (.iload 5, 2) := by decide +kernel
theorem d_G_addPass_47 : decode b_G_addPass 47 = .ok (.iload 4, 2) := by decide +kernel
theorem d_G_addPass_49 : decode b_G_addPass 49 = .ok (.bastore, 1) := by decide +kernel
theorem d_G_addPass_50 : decode b_G_addPass 50 = .ok (.aload_n 0, 1) := by decide +kernel
theorem d_G_addPass_51 : decode b_G_addPass 51 = .ok (.getfield 43, 3) := by decide +kernel
theorem d_G_addPass_54 : decode b_G_addPass 54 = .ok (.iload_n 1, 1) := by decide +kernel
theorem d_G_addPass_55 : decode b_G_addPass 55 = .ok (.dup2, 1) := by decide +kernel
theorem d_G_addPass_56 : decode b_G_addPass 56 = .ok (.iaload, 1) := by decide +kernel
theorem d_G_addPass_57 : decode b_G_addPass 57 = .ok (.iconst 1, 1) := by decide +kernel
theorem d_G_addPass_58 : decode b_G_addPass 58 = .ok (.iadd, 1) := by decide +kernel
theorem d_G_addPass_59 : decode b_G_addPass 59 = .ok (.iastore, 1) := by decide +kernel
theorem d_G_addPass_60 : decode b_G_addPass 60 = .ok (.aload_n 0, 1) := by decide +kernel
theorem d_G_addPass_61 : decode b_G_addPass 61 = .ok (.getfield 43, 3) := by decide +kernel
theorem d_G_addPass_64 : decode b_G_addPass 64 = .ok (.iload_n 1, 1) := by decide +kernel
theorem d_G_addPass_65 : decode b_G_addPass 65 = .ok (.iaload, 1) := by decide +kernel
theorem d_G_addPass_66 : decode b_G_addPass 66 = .ok (.ireturn, 1) := by decide +kernel
theorem d_G_addStatement_0 : decode b_G_addStatement 0 = .ok (.aload_n 0, 1) := by decide +kernel
theorem d_G_addStatement_1 : decode b_G_addStatement 1 = .ok (.getfield 18, 3) := by decide +kernel
theorem d_G_addStatement_4 : decode b_G_addStatement 4 = .ok (.bipush 40, 2) := by decide +kernel
theorem d_G_addStatement_6 : decode b_G_addStatement 6 = .ok (.if_icmp .lt 6, 3) := by decide +kernel
theorem d_G_addStatement_9 : decode b_G_addStatement 9 = .ok (.bipush (-2), 2) := by decide +kernel
theorem d_G_addStatement_11 : decode b_G_addStatement 11 = .ok (.ireturn, 1) := by decide +kernel
theorem d_G_addStatement_12 : decode b_G_addStatement 12 = .ok (.aload_n 0, 1) := by decide +kernel
theorem d_G_addStatement_13 : decode b_G_addStatement 13 = .ok (.getfield 22, 3) := by decide +kernel
theorem d_G_addStatement_16 : decode b_G_addStatement 16 = .ok (.aload_n 0, 1) := by decide +kernel
theorem d_G_addStatement_17 : decode b_G_addStatement 17 = .ok (.getfield 18, 3) := by decide +kernel
theorem d_G_addStatement_20 : decode b_G_addStatement 20 = .ok (.iload_n 1, 1) := by decide +kernel
theorem d_G_addStatement_21 : decode b_G_addStatement 21 = .ok (.iastore, 1) := by decide +kernel
theorem d_G_addStatement_22 : decode b_G_addStatement 22 = .ok (.aload_n 0, 1) := by decide +kernel
theorem d_G_addStatement_23 : decode b_G_addStatement 23 = .ok (.getfield 25, 3) := by decide +kernel
theorem d_G_addStatement_26 : decode b_G_addStatement 26 = .ok (.aload_n 0, 1) := by decide +kernel
theorem d_G_addStatement_27 : decode b_G_addStatement 27 = .ok (.getfield 18, 3) := by decide +kernel
theorem d_G_addStatement_30 : decode b_G_addStatement 30 = .ok (.iload_n 2, 1) := by decide +kernel
theorem d_G_addStatement_31 : decode b_G_addStatement 31 = .ok (.iastore, 1) := by decide +kernel
theorem d_G_addStatement_32 : decode b_G_addStatement 32 = .ok (.aload_n 0, 1) := by decide +kernel
theorem d_G_addStatement_33 : decode b_G_addStatement 33 = .ok (.getfield 28, 3) := by decide +kernel
theorem d_G_addStatement_36 : decode b_G_addStatement 36 = .ok (.aload_n 0, 1) := by decide +kernel
theorem d_G_addStatement_37 : decode b_G_addStatement 37 = .ok (.getfield 18, 3) := by decide +kernel
theorem d_G_addStatement_40 : decode b_G_addStatement 40 = .ok (.iload_n 3, 1) := by decide +kernel
theorem d_G_addStatement_41 : decode b_G_addStatement 41 = .ok (.iastore, 1) := by decide +kernel
theorem d_G_addStatement_42 : decode b_G_addStatement 42 = .ok (.aload_n 0, 1) := by decide +kernel
theorem d_G_addStatement_43 : decode b_G_addStatement 43 = .ok (.getfield 31, 3) := by decide +kernel
theorem d_G_addStatement_46 : decode b_G_addStatement 46 = .ok (.aload_n 0, 1) := by decide +kernel
theorem d_G_addStatement_47 : decode b_G_addStatement 47 = .ok (.getfield 18, 3) := by decide +kernel
theorem d_G_addStatement_50 : decode b_G_addStatement 50 = .ok (.iload 4, 2) := by decide +kernel
theorem d_G_addStatement_52 : decode b_G_addStatement 52 = .ok (.iastore, 1) := by decide +kernel
theorem d_G_addStatement_53 : decode b_G_addStatement 53 = .ok (.aload_n 0, 1) := by decide +kernel
theorem d_G_addStatement_54 : decode b_G_addStatement 54 = .ok (.dup, 1) := by decide +kernel
theorem d_G_addStatement_55 : decode b_G_addStatement 55 = .ok (.getfield 18, 3) := by decide +kernel
theorem d_G_addStatement_58 : decode b_G_addStatement 58 = .ok (.iconst 1, 1) := by decide +kernel
theorem d_G_addStatement_59 : decode b_G_addStatement 59 = .ok (.iadd, 1) := by decide +kernel
theorem d_G_addStatement_60 : decode b_G_addStatement 60 = .ok (.putfield 18, 3) := by decide +kernel
theorem d_G_addStatement_63 : decode b_G_addStatement 63 = .ok (.aload_n 0, 1) := by decide +kernel
theorem d_G_addStatement_64 : decode b_G_addStatement 64 = .ok (.getfield 18, 3) := by decide +kernel
theorem d_G_addStatement_67 : decode b_G_addStatement 67 = .ok (.ireturn, 1) := by decide +kernel
theorem d_G_countPasses_0 : decode b_G_countPasses 0 = .ok (.iconst 0, 1) := by decide +kernel
theorem d_G_countPasses_1 : decode b_G_countPasses 1 = .ok (.istore_n 1, 1) := by decide +kernel
theorem d_G_countPasses_2 : decode b_G_countPasses 2 = .ok (.iconst 0, 1) := by decide +kernel
theorem d_G_countPasses_3 : decode b_G_countPasses 3 = .ok (.istore_n 2, 1) := by decide +kernel
theorem d_G_countPasses_4 : decode b_G_countPasses 4 = .ok (.iload_n 2, 1) := by decide +kernel
theorem d_G_countPasses_5 : decode b_G_countPasses 5 = .ok (.aload_n 0, 1) := by decide +kernel
theorem d_G_countPasses_6 : decode b_G_countPasses 6 = .ok (.getfield 34, 3) := by decide +kernel
theorem d_G_countPasses_9 : decode b_G_countPasses 9 = .ok (.if_icmp .ge 18, 3) := by decide +kernel
theorem d_G_countPasses_12 : decode b_G_countPasses 12 = .ok (.iload_n 1, 1) := by decide +kernel
theorem d_G_countPasses_13 : decode b_G_countPasses 13 = .ok (.aload_n 0, 1) := by decide +kernel
theorem d_G_countPasses_14 : decode b_G_countPasses 14 = .ok (.getfield 43, 3) := by decide +kernel
theorem d_G_countPasses_17 : decode b_G_countPasses 17 = .ok (.iload_n 2, 1) := by decide +kernel
theorem d_G_countPasses_18 : decode b_G_countPasses 18 = .ok (.iaload, 1) := by decide +kernel
theorem d_G_countPasses_19 : decode b_G_countPasses 19 = .ok (.iadd, 1) := by decide +kernel
theorem d_G_countPasses_20 : decode b_G_countPasses 20 = .ok (.istore_n 1, 1) := by decide +kernel
theorem d_G_countPasses_21 : decode b_G_countPasses 21 = .ok (.iinc 2 1, 3) := by decide +kernel
theorem d_G_countPasses_24 : decode b_G_countPasses 24 = .ok (.goto (-20), 3) := by decide +kernel
theorem d_G_countPasses_27 : decode b_G_countPasses 27 = .ok (.iload_n 1, 1) := by decide +kernel
theorem d_G_countPasses_28 : decode b_G_countPasses 28 = .ok (.ireturn, 1) := by decide +kernel
theorem d_G_mayPass_0 : decode b_G_mayPass 0 = .ok (.iload_n 1, 1) := by decide +kernel
theorem d_G_mayPass_1 : decode b_G_mayPass 1 = .ok (.aload_n 0, 1) := by decide +kernel
theorem d_G_mayPass_2 : decode b_G_mayPass 2 = .ok (.getfield 34, 3) := by decide +kernel
theorem d_G_mayPass_5 : decode b_G_mayPass 5 = .ok (.invokestatic 62, 3) := by decide +kernel
theorem d_G_mayPass_8 : decode b_G_mayPass 8 = .ok (.ifCond .ne 5, 3) := by decide +kernel
theorem d_G_mayPass_11 : decode b_G_mayPass 11 = .ok (.iconst 0, 1) := by decide +kernel
theorem d_G_mayPass_12 : decode b_G_mayPass 12 = .ok (.ireturn, 1) := by decide +kernel
theorem d_G_mayPass_13 : decode b_G_mayPass 13 = .ok (.iload 4, 2) := by decide +kernel
theorem d_G_mayPass_15 : decode b_G_mayPass 15 = .ok (.ifCond .eq 35, 3) := by decide +kernel
theorem d_G_mayPass_18 : decode b_G_mayPass 18 = .ok (.iload_n 2, 1) := by decide +kernel
theorem d_G_mayPass_19 : decode b_G_mayPass 19 = .ok (.aload_n 0, 1) := by decide +kernel
theorem d_G_mayPass_20 : decode b_G_mayPass 20 = .ok (.getfield 37, 3) := by decide +kernel
theorem d_G_mayPass_23 : decode b_G_mayPass 23 = .ok (.iload_n 1, 1) := by decide +kernel
theorem d_G_mayPass_24 : decode b_G_mayPass 24 = .ok (.iaload, 1) := by decide +kernel
theorem d_G_mayPass_25 : decode b_G_mayPass 25 = .ok (.invokestatic 66, 3) := by decide +kernel
theorem d_G_mayPass_28 : decode b_G_mayPass 28 = .ok (.ifCond .eq 20, 3) := by decide +kernel
theorem d_G_mayPass_31 : decode b_G_mayPass 31 = .ok (.iload_n 3, 1) := by decide +kernel
theorem d_G_mayPass_32 : decode b_G_mayPass 32 = .ok (.aload_n 0, 1) := by decide +kernel
theorem d_G_mayPass_33 : decode b_G_mayPass 33 = .ok (.getfield 40, 3) := by decide +kernel
theorem d_G_mayPass_36 : decode b_G_mayPass 36 = .ok (.iload_n 1, 1) := by decide +kernel
theorem d_G_mayPass_37 : decode b_G_mayPass 37 = .ok (.iaload, 1) := by decide +kernel
theorem d_G_mayPass_38 : decode b_G_mayPass 38 = .ok (.invokestatic 66, 3) := by decide +kernel
theorem d_G_mayPass_41 : decode b_G_mayPass 41 = .ok (.ifCond .eq 7, 3) := by decide +kernel
theorem d_G_mayPass_44 : decode b_G_mayPass 44 = .ok (.iconst 1, 1) := by decide +kernel
theorem d_G_mayPass_45 : decode b_G_mayPass 45 = .ok (.goto 4, 3) := by decide +kernel
theorem d_G_mayPass_48 : decode b_G_mayPass 48 = .ok (.iconst 0, 1) := by decide +kernel
theorem d_G_mayPass_49 : decode b_G_mayPass 49 = .ok (.ireturn, 1) := by decide +kernel
theorem d_G_mayPass_50 : decode b_G_mayPass 50 = .ok (.iload_n 2, 1) := by decide +kernel
theorem d_G_mayPass_51 : decode b_G_mayPass 51 = .ok (.aload_n 0, 1) := by decide +kernel
theorem d_G_mayPass_52 : decode b_G_mayPass 52 = .ok (.getfield 40, 3) := by decide +kernel
theorem d_G_mayPass_55 : decode b_G_mayPass 55 = .ok (.iload_n 1, 1) := by decide +kernel
theorem d_G_mayPass_56 : decode b_G_mayPass 56 = .ok (.iaload, 1) := by decide +kernel
theorem d_G_mayPass_57 : decode b_G_mayPass 57 = .ok (.invokestatic 66, 3) := by decide +kernel
theorem d_G_mayPass_60 : decode b_G_mayPass 60 = .ok (.ifCond .eq 20, 3) := by decide +kernel
theorem d_G_mayPass_63 : decode b_G_mayPass 63 = .ok (.iload_n 3, 1) := by decide +kernel
theorem d_G_mayPass_64 : decode b_G_mayPass 64 = .ok (.aload_n 0, 1) := by decide +kernel
theorem d_G_mayPass_65 : decode b_G_mayPass 65 = .ok (.getfield 37, 3) := by decide +kernel
theorem d_G_mayPass_68 : decode b_G_mayPass 68 = .ok (.iload_n 1, 1) := by decide +kernel
theorem d_G_mayPass_69 : decode b_G_mayPass 69 = .ok (.iaload, 1) := by decide +kernel
theorem d_G_mayPass_70 : decode b_G_mayPass 70 = .ok (.invokestatic 66, 3) := by decide +kernel
theorem d_G_mayPass_73 : decode b_G_mayPass 73 = .ok (.ifCond .eq 7, 3) := by decide +kernel
theorem d_G_mayPass_76 : decode b_G_mayPass 76 = .ok (.iconst 1, 1) := by decide +kernel
theorem d_G_mayPass_77 : decode b_G_mayPass 77 = .ok (.goto 4, 3) := by decide +kernel
theorem d_G_mayPass_80 : decode b_G_mayPass 80 = .ok (.iconst 0, 1) := by decide +kernel
theorem d_G_mayPass_81 : decode b_G_mayPass 81 = .ok (.ireturn, 1) := by decide +kernel
theorem d_M_accept_0 : decode b_M_accept 0 = .ok (.iload_n 1, 1) := by decide +kernel
theorem d_M_accept_1 : decode b_M_accept 1 = .ok (.bipush 15, 2) := by decide +kernel
theorem d_M_accept_3 : decode b_M_accept 3 = .ok (.invokestatic 71, 3) := by decide +kernel
theorem d_M_accept_6 : decode b_M_accept 6 = .ok (.ifCond .eq 12, 3) := by decide +kernel
theorem d_M_accept_9 : decode b_M_accept 9 = .ok (.iload_n 2, 1) := by decide +kernel
theorem d_M_accept_10 : decode b_M_accept 10 = .ok (.bipush 15, 2) := by decide +kernel
theorem d_M_accept_12 : decode b_M_accept 12 = .ok (.invokestatic 71, 3) := by decide +kernel
theorem d_M_accept_15 : decode b_M_accept 15 = .ok (.ifCond .ne 5, 3) := by decide +kernel
theorem d_M_accept_18 : decode b_M_accept 18 = .ok (.iconst 0, 1) := by decide +kernel
theorem d_M_accept_19 : decode b_M_accept 19 = .ok (.ireturn, 1) := by decide +kernel
theorem d_M_accept_20 : decode b_M_accept 20 = .ok (.aload_n 0, 1) := by decide +kernel
theorem d_M_accept_21 : decode b_M_accept 21 = .ok (.getfield 13, 3) := by decide +kernel
theorem d_M_accept_24 : decode b_M_accept 24 = .ok (.iload_n 1, 1) := by decide +kernel
theorem d_M_accept_25 : decode b_M_accept 25 = .ok (.iload_n 2, 1) := by decide +kernel
theorem d_M_accept_26 : decode b_M_accept 26 = .ok (.iastore, 1) := by decide +kernel
theorem d_M_accept_27 : decode b_M_accept 27 = .ok (.iconst 1, 1) := by decide +kernel
theorem d_M_accept_28 : decode b_M_accept 28 = .ok (.ireturn, 1) := by decide +kernel
theorem d_M_alias_0 : decode b_M_alias 0 = .ok (.aload_n 0, 1) := by decide +kernel
theorem d_M_alias_1 : decode b_M_alias 1 = .ok (.iload_n 1, 1) := by decide +kernel
theorem d_M_alias_2 : decode b_M_alias 2 = .ok (.iload_n 2, 1) := by decide +kernel
theorem d_M_alias_3 : decode b_M_alias 3 = .ok (.invokevirtual 136, 3) := by decide +kernel
theorem d_M_alias_6 : decode b_M_alias 6 = .ok (.ifCond .eq 44, 3) := by decide +kernel
theorem d_M_alias_9 : decode b_M_alias 9 = .ok (.aload_n 0, 1) := by decide +kernel
theorem d_M_alias_10 : decode b_M_alias 10 = .ok (.iload_n 3, 1) := by decide +kernel
theorem d_M_alias_11 : decode b_M_alias 11 = .ok (.iload 4, 2) := by decide +kernel
theorem d_M_alias_13 : decode b_M_alias 13 = .ok (.invokevirtual 136, 3) := by decide +kernel
theorem d_M_alias_16 : decode b_M_alias 16 = .ok (.ifCond .eq 34, 3) := by decide +kernel
theorem d_M_alias_19 : decode b_M_alias 19 = .ok (.aload_n 0, 1) := by decide +kernel
theorem d_M_alias_20 : decode b_M_alias 20 = .ok (.getfield 62, 3) := by decide +kernel
theorem d_M_alias_23 : decode b_M_alias 23 = .ok (.bipush 16, 2) := by decide +kernel
theorem d_M_alias_25 : decode b_M_alias 25 = .ok (.iload_n 1, 1) := by decide +kernel
theorem d_M_alias_26 : decode b_M_alias 26 = .ok (.imul, 1) := by decide +kernel
theorem d_M_alias_27 : decode b_M_alias 27 = .ok (.iload_n 2, 1) := by decide +kernel
theorem d_M_alias_28 : decode b_M_alias 28 = .ok (.iadd, 1) := by decide +kernel
theorem d_M_alias_29 : decode b_M_alias 29 = .ok (.iaload, 1) := by decide +kernel
theorem d_M_alias_30 : decode b_M_alias 30 = .ok (.aload_n 0, 1) := by decide +kernel
theorem d_M_alias_31 : decode b_M_alias 31 = .ok (.getfield 62, 3) := by decide +kernel
theorem d_M_alias_34 : decode b_M_alias 34 = .ok (.bipush 16, 2) := by decide +kernel
theorem d_M_alias_36 : decode b_M_alias 36 = .ok (.iload_n 3, 1) := by decide +kernel
theorem d_M_alias_37 : decode b_M_alias 37 = .ok (.imul, 1) := by decide +kernel
theorem d_M_alias_38 : decode b_M_alias 38 = .ok (.iload 4, 2) := by decide +kernel
theorem d_M_alias_40 : decode b_M_alias 40 = .ok (.iadd, 1) := by decide +kernel
theorem d_M_alias_41 : decode b_M_alias 41 = .ok (.iaload, 1) := by decide +kernel
theorem d_M_alias_42 : decode b_M_alias 42 = .ok (.iand, 1) := by decide +kernel
theorem d_M_alias_43 : decode b_M_alias 43 = .ok (.ifCond .eq 7, 3) := by decide +kernel
theorem d_M_alias_46 : decode b_M_alias 46 = .ok (.iconst 1, 1) := by decide +kernel
theorem d_M_alias_47 : decode b_M_alias 47 = .ok (.goto 4, 3) := by decide +kernel
theorem d_M_alias_50 : decode b_M_alias 50 = .ok (.iconst 0, 1) := by decide +kernel
theorem d_M_alias_51 : decode b_M_alias 51 = .ok (.ireturn, 1) := by decide +kernel
theorem d_M_call_0 : decode b_M_call 0 = .ok (.iload_n 1, 1) := by decide +kernel
theorem d_M_call_1 : decode b_M_call 1 = .ok (.iconst 3, 1) := by decide +kernel
theorem d_M_call_2 : decode b_M_call 2 = .ok (.invokestatic 71, 3) := by decide +kernel
theorem d_M_call_5 : decode b_M_call 5 = .ok (.ifCond .eq 11, 3) := by decide +kernel
theorem d_M_call_8 : decode b_M_call 8 = .ok (.iload_n 2, 1) := by decide +kernel
theorem d_M_call_9 : decode b_M_call 9 = .ok (.iconst 3, 1) := by decide +kernel
theorem d_M_call_10 : decode b_M_call 10 = .ok (.invokestatic 71, 3) := by decide +kernel
theorem d_M_call_13 : decode b_M_call 13 = .ok (.ifCond .ne 5, 3) := by decide +kernel
theorem d_M_call_16 : decode b_M_call 16 = .ok (.iconst (-1), 1) := by decide +kernel
theorem d_M_call_17 : decode b_M_call 17 = .ok (.ireturn, 1) := by decide +kernel
theorem d_M_call_18 : decode b_M_call 18 = .ok (.aload_n 0, 1) := by decide +kernel
theorem d_M_call_19 : decode b_M_call 19 = .ok (.getfield 86, 3) := by decide +kernel
theorem d_M_call_22 : decode b_M_call 22 = .ok (.bipush 8, 2) := by decide +kernel
theorem d_M_call_24 : decode b_M_call 24 = .ok (.if_icmp .ne 6, 3) := by decide +kernel
theorem d_M_call_27 : decode b_M_call 27 = .ok (.bipush (-2), 2) := by decide +kernel
theorem d_M_call_29 : decode b_M_call 29 = .ok (.ireturn, 1) := by decide +kernel
theorem d_M_call_30 : decode b_M_call 30 = .ok (.aload_n 0, 1) := by decide +kernel
theorem d_M_call_31 : decode b_M_call 31 = .ok (.getfield 28, 3) := by decide +kernel
theorem d_M_call_34 : decode b_M_call 34 = .ok (.aload_n 0, 1) := by decide +kernel
theorem d_M_call_35 : decode b_M_call 35 = .ok (.getfield 86, 3) := by decide +kernel
theorem d_M_call_38 : decode b_M_call 38 = .ok (.iload_n 1, 1) := by decide +kernel
theorem d_M_call_39 : decode b_M_call 39 = .ok (.iastore, 1) := by decide +kernel
theorem d_M_call_40 : decode b_M_call 40 = .ok (.aload_n 0, 1) := by decide +kernel
theorem d_M_call_41 : decode b_M_call 41 = .ok (.getfield 31, 3) := by decide +kernel
theorem d_M_call_44 : decode b_M_call 44 = .ok (.aload_n 0, 1) := by decide +kernel
theorem d_M_call_45 : decode b_M_call 45 = .ok (.getfield 86, 3) := by decide +kernel
theorem d_M_call_48 : decode b_M_call 48 = .ok (.iload_n 2, 1) := by decide +kernel
theorem d_M_call_49 : decode b_M_call 49 = .ok (.iastore, 1) := by decide +kernel
theorem d_M_call_50 : decode b_M_call 50 = .ok (.aload_n 0, 1) := by decide +kernel
theorem d_M_call_51 : decode b_M_call 51 = .ok (.dup, 1) := by decide +kernel
theorem d_M_call_52 : decode b_M_call 52 = .ok (.getfield 86, 3) := by decide +kernel
theorem d_M_call_55 : decode b_M_call 55 = .ok (.iconst 1, 1) := by decide +kernel
theorem d_M_call_56 : decode b_M_call 56 = .ok (.iadd, 1) := by decide +kernel
theorem d_M_call_57 : decode b_M_call 57 = .ok (.putfield 86, 3) := by decide +kernel
theorem d_M_call_60 : decode b_M_call 60 = .ok (.aload_n 0, 1) := by decide +kernel
theorem d_M_call_61 : decode b_M_call 61 = .ok (.getfield 86, 3) := by decide +kernel
theorem d_M_call_64 : decode b_M_call 64 = .ok (.iconst 1, 1) := by decide +kernel
theorem d_M_call_65 : decode b_M_call 65 = .ok (.isub, 1) := by decide +kernel
theorem d_M_call_66 : decode b_M_call 66 = .ok (.ireturn, 1) := by decide +kernel
theorem d_M_context_0 : decode b_M_context 0 = .ok (.iload_n 1, 1) := by decide +kernel
theorem d_M_context_1 : decode b_M_context 1 = .ok (.aload_n 0, 1) := by decide +kernel
theorem d_M_context_2 : decode b_M_context 2 = .ok (.getfield 127, 3) := by decide +kernel
theorem d_M_context_5 : decode b_M_context 5 = .ok (.iconst 1, 1) := by decide +kernel
theorem d_M_context_6 : decode b_M_context 6 = .ok (.isub, 1) := by decide +kernel
theorem d_M_context_7 : decode b_M_context 7 = .ok (.invokestatic 71, 3) := by decide +kernel
theorem d_M_context_10 : decode b_M_context 10 = .ok (.ifCond .eq 34, 3) := by decide +kernel
theorem d_M_context_13 : decode b_M_context 13 = .ok (.iload_n 2, 1) := by decide +kernel
theorem d_M_context_14 : decode b_M_context 14 = .ok (.aload_n 0, 1) := by decide +kernel
theorem d_M_context_15 : decode b_M_context 15 = .ok (.getfield 53, 3) := by decide +kernel
theorem d_M_context_18 : decode b_M_context 18 = .ok (.aload_n 0, 1) := by decide +kernel
theorem d_M_context_19 : decode b_M_context 19 = .ok (.getfield 59, 3) := by decide +kernel
theorem d_M_context_22 : decode b_M_context 22 = .ok (.iload_n 1, 1) := by decide +kernel
theorem d_M_context_23 : decode b_M_context 23 = .ok (.iaload, 1) := by decide +kernel
theorem d_M_context_24 : decode b_M_context 24 = .ok (.iaload, 1) := by decide +kernel
theorem d_M_context_25 : decode b_M_context 25 = .ok (.iconst 1, 1) := by decide +kernel
theorem d_M_context_26 : decode b_M_context 26 = .ok (.isub, 1) := by decide +kernel
theorem d_M_context_27 : decode b_M_context 27 = .ok (.invokestatic 71, 3) := by decide +kernel
theorem d_M_context_30 : decode b_M_context 30 = .ok (.ifCond .eq 14, 3) := by decide +kernel
theorem d_M_context_33 : decode b_M_context 33 = .ok (.aload_n 0, 1) := by decide +kernel
theorem d_M_context_34 : decode b_M_context 34 = .ok (.getfield 56, 3) := by decide +kernel
theorem d_M_context_37 : decode b_M_context 37 = .ok (.iload_n 1, 1) := by decide +kernel
theorem d_M_context_38 : decode b_M_context 38 = .ok (.iaload, 1) := by decide +kernel
theorem d_M_context_39 : decode b_M_context 39 = .ok (.iload_n 2, 1) := by decide +kernel
theorem d_M_context_40 : decode b_M_context 40 = .ok (.iadd, 1) := by decide +kernel
theorem d_M_context_41 : decode b_M_context 41 = .ok (.goto 4, 3) := by decide +kernel
theorem d_M_context_44 : decode b_M_context 44 = .ok (.iconst (-1), 1) := by decide +kernel
theorem d_M_context_45 : decode b_M_context 45 = .ok (.ireturn, 1) := by decide +kernel
theorem d_M_contexts_0 : decode b_M_contexts 0 = .ok (.iload_n 1, 1) := by decide +kernel
theorem d_M_contexts_1 : decode b_M_contexts 1 = .ok (.iconst 3, 1) := by decide +kernel
theorem d_M_contexts_2 : decode b_M_contexts 2 = .ok (.invokestatic 71, 3) := by decide +kernel
theorem d_M_contexts_5 : decode b_M_contexts 5 = .ok (.ifCond .eq 12, 3) := by decide +kernel
theorem d_M_contexts_8 : decode b_M_contexts 8 = .ok (.aload_n 0, 1) := by decide +kernel
theorem d_M_contexts_9 : decode b_M_contexts 9 = .ok (.getfield 53, 3) := by decide +kernel
theorem d_M_contexts_12 : decode b_M_contexts 12 = .ok (.iload_n 1, 1) := by decide +kernel
theorem d_M_contexts_13 : decode b_M_contexts 13 = .ok (.iaload, 1) := by decide +kernel
theorem d_M_contexts_14 : decode b_M_contexts 14 = .ok (.goto 4, 3) := by decide +kernel
theorem d_M_contexts_17 : decode b_M_contexts 17 = .ok (.iconst (-1), 1) := by decide +kernel
theorem d_M_contexts_18 : decode b_M_contexts 18 = .ok (.ireturn, 1) := by decide +kernel
theorem d_M_copy_0 : decode b_M_copy 0 = .ok (.iload_n 1, 1) := by decide +kernel
theorem d_M_copy_1 : decode b_M_copy 1 = .ok (.iload_n 2, 1) := by decide +kernel
theorem d_M_copy_2 : decode b_M_copy 2 = .ok (.invokestatic 83, 3) := by decide +kernel
theorem d_M_copy_5 : decode b_M_copy 5 = .ok (.ifCond .eq 14, 3) := by decide +kernel
theorem d_M_copy_8 : decode b_M_copy 8 = .ok (.aload_n 0, 1) := by decide +kernel
theorem d_M_copy_9 : decode b_M_copy 9 = .ok (.iconst 1, 1) := by decide +kernel
theorem d_M_copy_10 : decode b_M_copy 10 = .ok (.iload_n 1, 1) := by decide +kernel
theorem d_M_copy_11 : decode b_M_copy 11 = .ok (.iload_n 2, 1) := by decide +kernel
theorem d_M_copy_12 : decode b_M_copy 12 = .ok (.iconst 0, 1) := by decide +kernel
theorem d_M_copy_13 : decode b_M_copy 13 = .ok (.invokevirtual 79, 3) := by decide +kernel
theorem d_M_copy_16 : decode b_M_copy 16 = .ok (.goto 4, 3) := by decide +kernel
theorem d_M_copy_19 : decode b_M_copy 19 = .ok (.iconst (-1), 1) := by decide +kernel
theorem d_M_copy_20 : decode b_M_copy 20 = .ok (.ireturn, 1) := by decide +kernel
theorem d_M_holds_0 : decode b_M_holds 0 = .ok (.iload_n 1, 1) := by decide +kernel
theorem d_M_holds_1 : decode b_M_holds 1 = .ok (.bipush 7, 2) := by decide +kernel
theorem d_M_holds_3 : decode b_M_holds 3 = .ok (.invokestatic 71, 3) := by decide +kernel
theorem d_M_holds_6 : decode b_M_holds 6 = .ok (.ifCond .eq 24, 3) := by decide +kernel
theorem d_M_holds_9 : decode b_M_holds 9 = .ok (.iload_n 2, 1) := by decide +kernel
theorem d_M_holds_10 : decode b_M_holds 10 = .ok (.iconst 1, 1) := by decide +kernel
theorem d_M_holds_11 : decode b_M_holds 11 = .ok (.invokestatic 71, 3) := by decide +kernel
theorem d_M_holds_14 : decode b_M_holds 14 = .ok (.ifCond .eq 16, 3) := by decide +kernel
theorem d_M_holds_17 : decode b_M_holds 17 = .ok (.aload_n 0, 1) := by decide +kernel
theorem d_M_holds_18 : decode b_M_holds 18 = .ok (.getfield 65, 3) := by decide +kernel
theorem d_M_holds_21 : decode b_M_holds 21 = .ok (.iconst 2, 1) := by decide +kernel
theorem d_M_holds_22 : decode b_M_holds 22 = .ok (.iload_n 1, 1) := by decide +kernel
theorem d_M_holds_23 : decode b_M_holds 23 = .ok (.imul, 1) := by decide +kernel
theorem d_M_holds_24 : decode b_M_holds 24 = .ok (.iload_n 2, 1) := by decide +kernel
theorem d_M_holds_25 : decode b_M_holds 25 = .ok (.iadd, 1) := by decide +kernel
theorem d_M_holds_26 : decode b_M_holds 26 = .ok (.iaload, 1) := by decide +kernel
theorem d_M_holds_27 : decode b_M_holds 27 = .ok (.goto 4, 3) := by decide +kernel
theorem d_M_holds_30 : decode b_M_holds 30 = .ok (.iconst 0, 1) := by decide +kernel
theorem d_M_holds_31 : decode b_M_holds 31 = .ok (.ireturn, 1) := by decide +kernel
theorem d_M_in_0 : decode b_M_in 0 = .ok (.iload_n 0, 1) := by decide +kernel
theorem d_M_in_1 : decode b_M_in 1 = .ok (.ifCond .lt 12, 3) := by decide +kernel
theorem d_M_in_4 : decode b_M_in 4 = .ok (.iload_n 0, 1) := by decide +kernel
theorem d_M_in_5 : decode b_M_in 5 = .ok (.iload_n 1, 1) := by decide +kernel
theorem d_M_in_6 : decode b_M_in 6 = .ok (.if_icmp .gt 7, 3) := by decide +kernel
theorem d_M_in_9 : decode b_M_in 9 = .ok (.iconst 1, 1) := by decide +kernel
theorem d_M_in_10 : decode b_M_in 10 = .ok (.goto 4, 3) := by decide +kernel
theorem d_M_in_13 : decode b_M_in 13 = .ok (.iconst 0, 1) := by decide +kernel
theorem d_M_in_14 : decode b_M_in 14 = .ok (.ireturn, 1) := by decide +kernel
theorem d_M_isContext_0 : decode b_M_isContext 0 = .ok (.iload_n 2, 1) := by decide +kernel
theorem d_M_isContext_1 : decode b_M_isContext 1 = .ok (.bipush 15, 2) := by decide +kernel
theorem d_M_isContext_3 : decode b_M_isContext 3 = .ok (.invokestatic 71, 3) := by decide +kernel
theorem d_M_isContext_6 : decode b_M_isContext 6 = .ok (.ifCond .eq 24, 3) := by decide +kernel
theorem d_M_isContext_9 : decode b_M_isContext 9 = .ok (.iload_n 1, 1) := by decide +kernel
theorem d_M_isContext_10 : decode b_M_isContext 10 = .ok (.aload_n 0, 1) := by decide +kernel
theorem d_M_isContext_11 : decode b_M_isContext 11 = .ok (.getfield 53, 3) := by decide +kernel
theorem d_M_isContext_14 : decode b_M_isContext 14 = .ok (.iload_n 2, 1) := by decide +kernel
theorem d_M_isContext_15 : decode b_M_isContext 15 = .ok (.iconst 4, 1) := by decide +kernel
theorem d_M_isContext_16 : decode b_M_isContext 16 = .ok (.idiv, 1) := by decide +kernel
theorem d_M_isContext_17 : decode b_M_isContext 17 = .ok (.iaload, 1) := by decide +kernel
theorem d_M_isContext_18 : decode b_M_isContext 18 = .ok (.iconst 1, 1) := by decide +kernel
theorem d_M_isContext_19 : decode b_M_isContext 19 = .ok (.isub, 1) := by decide +kernel
theorem d_M_isContext_20 : decode b_M_isContext 20 = .ok (.invokestatic 71, 3) := by decide +kernel
theorem d_M_isContext_23 : decode b_M_isContext 23 = .ok (.ifCond .eq 7, 3) := by decide +kernel
theorem d_M_isContext_26 : decode b_M_isContext 26 = .ok (.iconst 1, 1) := by decide +kernel
theorem d_M_isContext_27 : decode b_M_isContext 27 = .ok (.goto 4, 3) := by decide +kernel
theorem d_M_isContext_30 : decode b_M_isContext 30 = .ok (.iconst 0, 1) := by decide +kernel
theorem d_M_isContext_31 : decode b_M_isContext 31 = .ok (.ireturn, 1) := by decide +kernel
theorem d_M_kind_0 : decode b_M_kind 0 = .ok (.iload_n 1, 1) := by decide +kernel
theorem d_M_kind_1 : decode b_M_kind 1 = .ok (.bipush 7, 2) := by decide +kernel
theorem d_M_kind_3 : decode b_M_kind 3 = .ok (.invokestatic 71, 3) := by decide +kernel
theorem d_M_kind_6 : decode b_M_kind 6 = .ok (.ifCond .eq 11, 3) := by decide +kernel
theorem d_M_kind_9 : decode b_M_kind 9 = .ok (.iload_n 2, 1) := by decide +kernel
theorem d_M_kind_10 : decode b_M_kind 10 = .ok (.iconst 3, 1) := by decide +kernel
theorem d_M_kind_11 : decode b_M_kind 11 = .ok (.invokestatic 71, 3) := by decide +kernel
theorem d_M_kind_14 : decode b_M_kind 14 = .ok (.ifCond .ne 5, 3) := by decide +kernel
theorem d_M_kind_17 : decode b_M_kind 17 = .ok (.iconst 0, 1) := by decide +kernel
theorem d_M_kind_18 : decode b_M_kind 18 = .ok (.ireturn, 1) := by decide +kernel
theorem d_M_kind_19 : decode b_M_kind 19 = .ok (.aload_n 0, 1) := by decide +kernel
theorem d_M_kind_20 : decode b_M_kind 20 = .ok (.getfield 7, 3) := by decide +kernel
theorem d_M_kind_23 : decode b_M_kind 23 = .ok (.iload_n 1, 1) := by decide +kernel
theorem d_M_kind_24 : decode b_M_kind 24 = .ok (.iload_n 2, 1) := by decide +kernel
theorem d_M_kind_25 : decode b_M_kind 25 = .ok (.iastore, 1) := by decide +kernel
theorem d_M_kind_26 : decode b_M_kind 26 = .ok (.iconst 1, 1) := by decide +kernel
theorem d_M_kind_27 : decode b_M_kind 27 = .ok (.ireturn, 1) := by decide +kernel
theorem d_M_load_0 : decode b_M_load 0 = .ok (.iload_n 1, 1) := by decide +kernel
theorem d_M_load_1 : decode b_M_load 1 = .ok (.iload_n 2, 1) := by decide +kernel
theorem d_M_load_2 : decode b_M_load 2 = .ok (.invokestatic 83, 3) := by decide +kernel
theorem d_M_load_5 : decode b_M_load 5 = .ok (.ifCond .eq 22, 3) := by decide +kernel
theorem d_M_load_8 : decode b_M_load 8 = .ok (.iload_n 3, 1) := by decide +kernel
theorem d_M_load_9 : decode b_M_load 9 = .ok (.iconst 1, 1) := by decide +kernel
theorem d_M_load_10 : decode b_M_load 10 = .ok (.invokestatic 71, 3) := by decide +kernel
theorem d_M_load_13 : decode b_M_load 13 = .ok (.ifCond .eq 14, 3) := by decide +kernel
theorem d_M_load_16 : decode b_M_load 16 = .ok (.aload_n 0, 1) := by decide +kernel
theorem d_M_load_17 : decode b_M_load 17 = .ok (.iconst 3, 1) := by decide +kernel
theorem d_M_load_18 : decode b_M_load 18 = .ok (.iload_n 1, 1) := by decide +kernel
theorem d_M_load_19 : decode b_M_load 19 = .ok (.iload_n 2, 1) := by decide +kernel
theorem d_M_load_20 : decode b_M_load 20 = .ok (.iload_n 3, 1) := by decide +kernel
theorem d_M_load_21 : decode b_M_load 21 = .ok (.invokevirtual 79, 3) := by decide +kernel
theorem d_M_load_24 : decode b_M_load 24 = .ok (.goto 4, 3) := by decide +kernel
theorem d_M_load_27 : decode b_M_load 27 = .ok (.iconst (-1), 1) := by decide +kernel
theorem d_M_load_28 : decode b_M_load 28 = .ok (.ireturn, 1) := by decide +kernel
theorem d_M_make_0 : decode b_M_make 0 = .ok (.iload_n 1, 1) := by decide +kernel
theorem d_M_make_1 : decode b_M_make 1 = .ok (.bipush 15, 2) := by decide +kernel
theorem d_M_make_3 : decode b_M_make 3 = .ok (.invokestatic 71, 3) := by decide +kernel
theorem d_M_make_6 : decode b_M_make 6 = .ok (.ifCond .eq 23, 3) := by decide +kernel
theorem d_M_make_9 : decode b_M_make 9 = .ok (.iload_n 2, 1) := by decide +kernel
theorem d_M_make_10 : decode b_M_make 10 = .ok (.bipush 7, 2) := by decide +kernel
theorem d_M_make_12 : decode b_M_make 12 = .ok (.invokestatic 71, 3) := by decide +kernel
theorem d_M_make_15 : decode b_M_make 15 = .ok (.ifCond .eq 14, 3) := by decide +kernel
theorem d_M_make_18 : decode b_M_make 18 = .ok (.aload_n 0, 1) := by decide +kernel
theorem d_M_make_19 : decode b_M_make 19 = .ok (.iconst 0, 1) := by decide +kernel
theorem d_M_make_20 : decode b_M_make 20 = .ok (.iload_n 1, 1) := by decide +kernel
theorem d_M_make_21 : decode b_M_make 21 = .ok (.iload_n 2, 1) := by decide +kernel
theorem d_M_make_22 : decode b_M_make 22 = .ok (.iconst 0, 1) := by decide +kernel
theorem d_M_make_23 : decode b_M_make 23 = .ok (.invokevirtual 79, 3) := by decide +kernel
theorem d_M_make_26 : decode b_M_make 26 = .ok (.goto 4, 3) := by decide +kernel
theorem d_M_make_29 : decode b_M_make 29 = .ok (.iconst (-1), 1) := by decide +kernel
theorem d_M_make_30 : decode b_M_make 30 = .ok (.ireturn, 1) := by decide +kernel
theorem d_M_order_0 : decode b_M_order 0 = .ok (.iload_n 1, 1) := by decide +kernel
theorem d_M_order_1 : decode b_M_order 1 = .ok (.iconst 5, 1) := by decide +kernel
theorem d_M_order_2 : decode b_M_order 2 = .ok (.invokestatic 71, 3) := by decide +kernel
theorem d_M_order_5 : decode b_M_order 5 = .ok (.ifCond .ne 5, 3) := by decide +kernel
theorem d_M_order_8 : decode b_M_order 8 = .ok (.iconst 0, 1) := by decide +kernel
theorem d_M_order_9 : decode b_M_order 9 = .ok (.ireturn, 1) := by decide +kernel
theorem d_M_order_10 : decode b_M_order 10 = .ok (.aload_n 0, 1) := by decide +kernel
theorem d_M_order_11 : decode b_M_order 11 = .ok (.iload_n 1, 1) := by decide +kernel
theorem d_M_order_12 : decode b_M_order 12 = .ok (.putfield 139, 3) := by decide +kernel
theorem d_M_order_15 : decode b_M_order 15 = .ok (.iconst 1, 1) := by decide +kernel
theorem d_M_order_16 : decode b_M_order 16 = .ok (.ireturn, 1) := by decide +kernel
theorem d_M_points_0 : decode b_M_points 0 = .ok (.aload_n 0, 1) := by decide +kernel
theorem d_M_points_1 : decode b_M_points 1 = .ok (.iload_n 1, 1) := by decide +kernel
theorem d_M_points_2 : decode b_M_points 2 = .ok (.iload_n 2, 1) := by decide +kernel
theorem d_M_points_3 : decode b_M_points 3 = .ok (.invokevirtual 136, 3) := by decide +kernel
theorem d_M_points_6 : decode b_M_points 6 = .ok (.ifCond .eq 17, 3) := by decide +kernel
theorem d_M_points_9 : decode b_M_points 9 = .ok (.aload_n 0, 1) := by decide +kernel
theorem d_M_points_10 : decode b_M_points 10 = .ok (.getfield 62, 3) := by decide +kernel
theorem d_M_points_13 : decode b_M_points 13 = .ok (.bipush 16, 2) := by decide +kernel
theorem d_M_points_15 : decode b_M_points 15 = .ok (.iload_n 1, 1) := by decide +kernel
theorem d_M_points_16 : decode b_M_points 16 = .ok (.imul, 1) := by decide +kernel
theorem d_M_points_17 : decode b_M_points 17 = .ok (.iload_n 2, 1) := by decide +kernel
theorem d_M_points_18 : decode b_M_points 18 = .ok (.iadd, 1) := by decide +kernel
theorem d_M_points_19 : decode b_M_points 19 = .ok (.iaload, 1) := by decide +kernel
theorem d_M_points_20 : decode b_M_points 20 = .ok (.goto 4, 3) := by decide +kernel
theorem d_M_points_23 : decode b_M_points 23 = .ok (.iconst 0, 1) := by decide +kernel
theorem d_M_points_24 : decode b_M_points 24 = .ok (.ireturn, 1) := by decide +kernel
theorem d_M_statement_0 : decode b_M_statement 0 = .ok (.aload_n 0, 1) := by decide +kernel
theorem d_M_statement_1 : decode b_M_statement 1 = .ok (.getfield 75, 3) := by decide +kernel
theorem d_M_statement_4 : decode b_M_statement 4 = .ok (.bipush 40, 2) := by decide +kernel
theorem d_M_statement_6 : decode b_M_statement 6 = .ok (.if_icmp .ne 6, 3) := by decide +kernel
theorem d_M_statement_9 : decode b_M_statement 9 = .ok (.bipush (-2), 2) := by decide +kernel
theorem d_M_statement_11 : decode b_M_statement 11 = .ok (.ireturn, 1) := by decide +kernel
theorem d_M_statement_12 : decode b_M_statement 12 = .ok (.aload_n 0, 1) := by decide +kernel
theorem d_M_statement_13 : decode b_M_statement 13 = .ok (.getfield 16, 3) := by decide +kernel
theorem d_M_statement_16 : decode b_M_statement 16 = .ok (.aload_n 0, 1) := by decide +kernel
theorem d_M_statement_17 : decode b_M_statement 17 = .ok (.getfield 75, 3) := by decide +kernel
theorem d_M_statement_20 : decode b_M_statement 20 = .ok (.iload_n 1, 1) := by decide +kernel
theorem d_M_statement_21 : decode b_M_statement 21 = .ok (.iastore, 1) := by decide +kernel
theorem d_M_statement_22 : decode b_M_statement 22 = .ok (.aload_n 0, 1) := by decide +kernel
theorem d_M_statement_23 : decode b_M_statement 23 = .ok (.getfield 19, 3) := by decide +kernel
theorem d_M_statement_26 : decode b_M_statement 26 = .ok (.aload_n 0, 1) := by decide +kernel
theorem d_M_statement_27 : decode b_M_statement 27 = .ok (.getfield 75, 3) := by decide +kernel
theorem d_M_statement_30 : decode b_M_statement 30 = .ok (.iload_n 2, 1) := by decide +kernel
theorem d_M_statement_31 : decode b_M_statement 31 = .ok (.iastore, 1) := by decide +kernel
theorem d_M_statement_32 : decode b_M_statement 32 = .ok (.aload_n 0, 1) := by decide +kernel
theorem d_M_statement_33 : decode b_M_statement 33 = .ok (.getfield 22, 3) := by decide +kernel
theorem d_M_statement_36 : decode b_M_statement 36 = .ok (.aload_n 0, 1) := by decide +kernel
theorem d_M_statement_37 : decode b_M_statement 37 = .ok (.getfield 75, 3) := by decide +kernel
theorem d_M_statement_40 : decode b_M_statement 40 = .ok (.iload_n 3, 1) := by decide +kernel
theorem d_M_statement_41 : decode b_M_statement 41 = .ok (.iastore, 1) := by decide +kernel
theorem d_M_statement_42 : decode b_M_statement 42 = .ok (.aload_n 0, 1) := by decide +kernel
theorem d_M_statement_43 : decode b_M_statement 43 = .ok (.getfield 25, 3) := by decide +kernel
theorem d_M_statement_46 : decode b_M_statement 46 = .ok (.aload_n 0, 1) := by decide +kernel
theorem d_M_statement_47 : decode b_M_statement 47 = .ok (.getfield 75, 3) := by decide +kernel
theorem d_M_statement_50 : decode b_M_statement 50 = .ok (.iload 4, 2) := by decide +kernel
theorem d_M_statement_52 : decode b_M_statement 52 = .ok (.iastore, 1) := by decide +kernel
theorem d_M_statement_53 : decode b_M_statement 53 = .ok (.aload_n 0, 1) := by decide +kernel
theorem d_M_statement_54 : decode b_M_statement 54 = .ok (.dup, 1) := by decide +kernel
theorem d_M_statement_55 : decode b_M_statement 55 = .ok (.getfield 75, 3) := by decide +kernel
theorem d_M_statement_58 : decode b_M_statement 58 = .ok (.iconst 1, 1) := by decide +kernel
theorem d_M_statement_59 : decode b_M_statement 59 = .ok (.iadd, 1) := by decide +kernel
theorem d_M_statement_60 : decode b_M_statement 60 = .ok (.putfield 75, 3) := by decide +kernel
theorem d_M_statement_63 : decode b_M_statement 63 = .ok (.aload_n 0, 1) := by decide +kernel
theorem d_M_statement_64 : decode b_M_statement 64 = .ok (.getfield 75, 3) := by decide +kernel
theorem d_M_statement_67 : decode b_M_statement 67 = .ok (.ireturn, 1) := by decide +kernel
theorem d_M_store_0 : decode b_M_store 0 = .ok (.iload_n 1, 1) := by decide +kernel
theorem d_M_store_1 : decode b_M_store 1 = .ok (.iload_n 3, 1) := by decide +kernel
theorem d_M_store_2 : decode b_M_store 2 = .ok (.invokestatic 83, 3) := by decide +kernel
theorem d_M_store_5 : decode b_M_store 5 = .ok (.ifCond .eq 22, 3) := by decide +kernel
theorem d_M_store_8 : decode b_M_store 8 = .ok (.iload_n 2, 1) := by decide +kernel
theorem d_M_store_9 : decode b_M_store 9 = .ok (.iconst 1, 1) := by decide +kernel
theorem d_M_store_10 : decode b_M_store 10 = .ok (.invokestatic 71, 3) := by decide +kernel
theorem d_M_store_13 : decode b_M_store 13 = .ok (.ifCond .eq 14, 3) := by decide +kernel
theorem d_M_store_16 : decode b_M_store 16 = .ok (.aload_n 0, 1) := by decide +kernel
theorem d_M_store_17 : decode b_M_store 17 = .ok (.iconst 2, 1) := by decide +kernel
theorem d_M_store_18 : decode b_M_store 18 = .ok (.iload_n 1, 1) := by decide +kernel
theorem d_M_store_19 : decode b_M_store 19 = .ok (.iload_n 3, 1) := by decide +kernel
theorem d_M_store_20 : decode b_M_store 20 = .ok (.iload_n 2, 1) := by decide +kernel
theorem d_M_store_21 : decode b_M_store 21 = .ok (.invokevirtual 79, 3) := by decide +kernel
theorem d_M_store_24 : decode b_M_store 24 = .ok (.goto 4, 3) := by decide +kernel
theorem d_M_store_27 : decode b_M_store 27 = .ok (.iconst (-1), 1) := by decide +kernel
theorem d_M_store_28 : decode b_M_store 28 = .ok (.ireturn, 1) := by decide +kernel
theorem d_M_together_0 : decode b_M_together 0 = .ok (.iload_n 0, 1) := by decide +kernel
theorem d_M_together_1 : decode b_M_together 1 = .ok (.bipush 15, 2) := by decide +kernel
theorem d_M_together_3 : decode b_M_together 3 = .ok (.invokestatic 71, 3) := by decide +kernel
theorem d_M_together_6 : decode b_M_together 6 = .ok (.ifCond .eq 25, 3) := by decide +kernel
theorem d_M_together_9 : decode b_M_together 9 = .ok (.iload_n 1, 1) := by decide +kernel
theorem d_M_together_10 : decode b_M_together 10 = .ok (.bipush 15, 2) := by decide +kernel
theorem d_M_together_12 : decode b_M_together 12 = .ok (.invokestatic 71, 3) := by decide +kernel
theorem d_M_together_15 : decode b_M_together 15 = .ok (.ifCond .eq 16, 3) := by decide +kernel
theorem d_M_together_18 : decode b_M_together 18 = .ok (.iload_n 0, 1) := by decide +kernel
theorem d_M_together_19 : decode b_M_together 19 = .ok (.iconst 4, 1) := by decide +kernel
theorem d_M_together_20 : decode b_M_together 20 = .ok (.idiv, 1) := by decide +kernel
theorem d_M_together_21 : decode b_M_together 21 = .ok (.iload_n 1, 1) := by decide +kernel
theorem d_M_together_22 : decode b_M_together 22 = .ok (.iconst 4, 1) := by decide +kernel
theorem d_M_together_23 : decode b_M_together 23 = .ok (.idiv, 1) := by decide +kernel
theorem d_M_together_24 : decode b_M_together 24 = .ok (.if_icmp .ne 7, 3) := by decide +kernel
theorem d_M_together_27 : decode b_M_together 27 = .ok (.iconst 1, 1) := by decide +kernel
theorem d_M_together_28 : decode b_M_together 28 = .ok (.goto 4, 3) := by decide +kernel
theorem d_M_together_31 : decode b_M_together 31 = .ok (.iconst 0, 1) := by decide +kernel
theorem d_M_together_32 : decode b_M_together 32 = .ok (.ireturn, 1) := by decide +kernel
theorem d_N_areOfOneGroup_0 : decode b_N_areOfOneGroup 0 = .ok (.iload_n 1, 1) := by decide +kernel
theorem d_N_areOfOneGroup_1 : decode b_N_areOfOneGroup 1 = .ok (.iload_n 2, 1) := by decide +kernel
theorem d_N_areOfOneGroup_2 : decode b_N_areOfOneGroup 2 = .ok (.if_icmp .eq 29, 3) := by decide +kernel
theorem d_N_areOfOneGroup_5 : decode b_N_areOfOneGroup 5 = .ok (.aload_n 0, 1) := by decide +kernel
theorem d_N_areOfOneGroup_6 : decode b_N_areOfOneGroup 6 = .ok (.getfield 22, 3) := by decide +kernel
theorem d_N_areOfOneGroup_9 : decode b_N_areOfOneGroup 9 = .ok (.iload_n 1, 1) := by decide +kernel
theorem d_N_areOfOneGroup_10 : decode b_N_areOfOneGroup 10 = .ok (.iaload, 1) := by decide +kernel
theorem d_N_areOfOneGroup_11 : decode b_N_areOfOneGroup 11 = .ok (.iload_n 2, 1) := by decide +kernel
theorem d_N_areOfOneGroup_12 : decode b_N_areOfOneGroup 12 = .ok (.invokestatic 53, 3) := by decide +kernel
theorem d_N_areOfOneGroup_15 : decode b_N_areOfOneGroup 15 = .ok (.ifCond .eq 20, 3) := by decide +kernel
theorem d_N_areOfOneGroup_18 : decode b_N_areOfOneGroup 18 = .ok (.aload_n 0, 1) := by decide +kernel
theorem d_N_areOfOneGroup_19 : decode b_N_areOfOneGroup 19 = .ok (.getfield 22, 3) := by decide +kernel
theorem d_N_areOfOneGroup_22 : decode b_N_areOfOneGroup 22 = .ok (.iload_n 2, 1) := by decide +kernel
theorem d_N_areOfOneGroup_23 : decode b_N_areOfOneGroup 23 = .ok (.iaload, 1) := by decide +kernel
theorem d_N_areOfOneGroup_24 : decode b_N_areOfOneGroup 24 = .ok (.iload_n 1, 1) := by decide +kernel
theorem d_N_areOfOneGroup_25 : decode b_N_areOfOneGroup 25 = .ok (.invokestatic 53, 3) := by decide +kernel
theorem d_N_areOfOneGroup_28 : decode b_N_areOfOneGroup 28 = .ok (.ifCond .eq 7, 3) := by decide +kernel
theorem d_N_areOfOneGroup_31 : decode b_N_areOfOneGroup 31 = .ok (.iconst 1, 1) := by decide +kernel
theorem d_N_areOfOneGroup_32 : decode b_N_areOfOneGroup 32 = .ok (.goto 4, 3) := by decide +kernel
theorem d_N_areOfOneGroup_35 : decode b_N_areOfOneGroup 35 = .ok (.iconst 0, 1) := by decide +kernel
theorem d_N_areOfOneGroup_36 : decode b_N_areOfOneGroup 36 = .ok (.ireturn, 1) := by decide +kernel
theorem d_N_broughtBefore_0 : decode b_N_broughtBefore 0 = .ok (.iconst 0, 1) := by decide +kernel
theorem d_N_broughtBefore_1 : decode b_N_broughtBefore 1 = .ok (.istore 4, 2) := by decide +kernel
theorem d_N_broughtBefore_3 : decode b_N_broughtBefore 3 = .ok (.iconst 0, 1) := by decide +kernel
theorem d_N_broughtBefore_4 : decode b_N_broughtBefore 4 = .ok (.istore 5, 2) := by decide +kernel
theorem d_N_broughtBefore_6 : decode b_N_broughtBefore 6 = .ok (.iload 5, 2) := by decide +kernel
theorem d_N_broughtBefore_8 : decode b_N_broughtBefore 8 = .ok (.iload_n 2, 1) := by decide +kernel
theorem d_N_broughtBefore_9 : decode b_N_broughtBefore 9 = .ok (.if_icmp .ge 51, 3) := by decide +kernel
theorem d_N_broughtBefore_12 : decode b_N_broughtBefore 12 = .ok (.aload_n 0, 1) := by decide +kernel
theorem d_N_broughtBefore_13 : decode b_N_broughtBefore 13 = .ok (.aload_n 1, 1) := by decide +kernel
theorem d_N_broughtBefore_14 : decode b_N_broughtBefore 14 = .ok (.iload 5, 2) := by decide +kernel
theorem d_N_broughtBefore_16 : decode b_N_broughtBefore 16 = .ok (.invokevirtual 67, 3) := by decide +kernel
theorem d_N_broughtBefore_19 : decode b_N_broughtBefore 19 = .ok (.ifCond .eq 35, 3) := by decide +kernel
theorem d_N_broughtBefore_22 : decode b_N_broughtBefore 22 = .ok (.aload_n 0, 1) := by decide +kernel
theorem d_N_broughtBefore_23 : decode b_N_broughtBefore 23 = .ok (.aload_n 1, 1) := by decide +kernel
theorem d_N_broughtBefore_24 : decode b_N_broughtBefore 24 = .ok (.getfield 50, 3) := by decide +kernel
theorem d_N_broughtBefore_27 : decode b_N_broughtBefore 27 = .ok (.iload 5, 2) := by decide +kernel
theorem d_N_broughtBefore_29 : decode b_N_broughtBefore 29 = .ok (.iaload, 1) := by decide +kernel
theorem d_N_broughtBefore_30 : decode b_N_broughtBefore 30 = .ok (.iload_n 3, 1) := by decide +kernel
theorem d_N_broughtBefore_31 : decode b_N_broughtBefore 31 = .ok (.invokevirtual 71, 3) := by decide +kernel
theorem d_N_broughtBefore_34 : decode b_N_broughtBefore 34 = .ok (.ifCond .eq 20, 3) := by decide +kernel
theorem d_N_broughtBefore_37 : decode b_N_broughtBefore 37 = .ok (.iload 4, 2) := by decide +kernel
theorem d_N_broughtBefore_39 : decode b_N_broughtBefore 39 = .ok (.aload_n 0, 1) := by decide +kernel
theorem d_N_broughtBefore_40 : decode b_N_broughtBefore 40 = .ok (.getfield 25, 3) := by decide +kernel
theorem d_N_broughtBefore_43 : decode b_N_broughtBefore 43 = .ok (.aload_n 1, 1) := by decide +kernel
theorem d_N_broughtBefore_44 : decode b_N_broughtBefore 44 = .ok (.getfield 47, 3) := by decide +kernel
theorem d_N_broughtBefore_47 : decode b_N_broughtBefore 47 = .ok (.iload 5, 2) := by decide +kernel
theorem d_N_broughtBefore_49 : decode b_N_broughtBefore 49 = .ok (.iaload, 1) := by decide +kernel
theorem d_N_broughtBefore_50 : decode b_N_broughtBefore 50 = .ok (.iaload, 1) := by decide +kernel
theorem d_N_broughtBefore_51 : decode b_N_broughtBefore 51 = .ok (.iadd, 1) := by decide +kernel
theorem d_N_broughtBefore_52 : decode b_N_broughtBefore 52 = .ok (.istore 4, 2) := by decide +kernel
theorem d_N_broughtBefore_54 : decode b_N_broughtBefore 54 = .ok (.iinc 5 1, 3) := by decide +kernel
theorem d_N_broughtBefore_57 : decode b_N_broughtBefore 57 = .ok (.goto (-51), 3) := by decide +kernel
theorem d_N_broughtBefore_60 : decode b_N_broughtBefore 60 = .ok (.iload 4, 2) := by decide +kernel
theorem d_N_broughtBefore_62 : decode b_N_broughtBefore 62 = .ok (.ireturn, 1) := by decide +kernel
theorem d_N_contextBy_0 : decode b_N_contextBy 0 = .ok (.aload_n 0, 1) := by decide +kernel
theorem d_N_contextBy_1 : decode b_N_contextBy 1 = .ok (.getfield 15, 3) := by decide +kernel
theorem d_N_contextBy_4 : decode b_N_contextBy 4 = .ok (.iload_n 1, 1) := by decide +kernel
theorem d_N_contextBy_5 : decode b_N_contextBy 5 = .ok (.iaload, 1) := by decide +kernel
theorem d_N_contextBy_6 : decode b_N_contextBy 6 = .ok (.iload_n 2, 1) := by decide +kernel
theorem d_N_contextBy_7 : decode b_N_contextBy 7 = .ok (.iadd, 1) := by decide +kernel
theorem d_N_contextBy_8 : decode b_N_contextBy 8 = .ok (.ireturn, 1) := by decide +kernel
theorem d_N_findReached_0 : decode b_N_findReached 0 = .ok (.aload_n 0, 1) := by decide +kernel
theorem d_N_findReached_1 : decode b_N_findReached 1 = .ok (.getfield 22, 3) := by decide +kernel
theorem d_N_findReached_4 : decode b_N_findReached 4 = .ok (.iconst 0, 1) := by decide +kernel
theorem d_N_findReached_5 : decode b_N_findReached 5 = .ok (.invokestatic 28, 3) := by decide +kernel
theorem d_N_findReached_8 : decode b_N_findReached 8 = .ok (.iconst 0, 1) := by decide +kernel
theorem d_N_findReached_9 : decode b_N_findReached 9 = .ok (.istore_n 2, 1) := by decide +kernel
theorem d_N_findReached_10 : decode b_N_findReached 10 = .ok (.iload_n 2, 1) := by decide +kernel
theorem d_N_findReached_11 : decode b_N_findReached 11 = .ok (.aload_n 1, 1) := by decide +kernel
theorem d_N_findReached_12 : decode b_N_findReached 12 = .ok (.getfield 44, 3) := by decide +kernel
theorem d_N_findReached_15 : decode b_N_findReached 15 = .ok (.if_icmp .ge 31, 3) := by decide +kernel
theorem d_N_findReached_18 : decode b_N_findReached 18 = .ok (.aload_n 0, 1) := by decide +kernel
theorem d_N_findReached_19 : decode b_N_findReached 19 = .ok (.getfield 22, 3) := by decide +kernel
theorem d_N_findReached_22 : decode b_N_findReached 22 = .ok (.aload_n 1, 1) := by decide +kernel
theorem d_N_findReached_23 : decode b_N_findReached 23 = .ok (.getfield 47, 3) := by decide +kernel
theorem d_N_findReached_26 : decode b_N_findReached 26 = .ok (.iload_n 2, 1) := by decide +kernel
theorem d_N_findReached_27 : decode b_N_findReached 27 = .ok (.iaload, 1) := by decide +kernel
theorem d_N_findReached_28 : decode b_N_findReached 28 = .ok (.dup2, 1) := by decide +kernel
theorem d_N_findReached_29 : decode b_N_findReached 29 = .ok (.iaload, 1) := by decide +kernel
theorem d_N_findReached_30 : decode b_N_findReached 30 = .ok (.iconst 1, 1) := by decide +kernel
theorem d_N_findReached_31 : decode b_N_findReached 31 = .ok (.aload_n 1, 1) := by decide +kernel
theorem d_N_findReached_32 : decode b_N_findReached 32 = .ok (.getfield 50, 3) := by decide +kernel
theorem d_N_findReached_35 : decode b_N_findReached 35 = .ok (.iload_n 2, 1) := by decide +kernel
theorem d_N_findReached_36 : decode b_N_findReached 36 = .ok (.iaload, 1) := by decide +kernel
theorem d_N_findReached_37 : decode b_N_findReached 37 = .ok (.ishl, 1) := by decide +kernel
theorem d_N_findReached_38 : decode b_N_findReached 38 = .ok (.ior, 1) := by decide +kernel
theorem d_N_findReached_39 : decode b_N_findReached 39 = .ok (.iastore, 1) := by decide +kernel
theorem d_N_findReached_40 : decode b_N_findReached 40 = .ok (.iinc 2 1, 3) := by decide +kernel
theorem d_N_findReached_43 : decode b_N_findReached 43 = .ok (.goto (-33), 3) := by decide +kernel
theorem d_N_findReached_46 : decode b_N_findReached 46 = .ok (.iconst 0, 1) := by decide +kernel
theorem d_N_findReached_47 : decode b_N_findReached 47 = .ok (.istore_n 2, 1) := by decide +kernel
theorem d_N_findReached_48 : decode b_N_findReached 48 = .ok (.iload_n 2, 1) := by decide +kernel
theorem d_N_findReached_49 : decode b_N_findReached 49 = .ok (.iconst 4, 1) := by decide +kernel
theorem d_N_findReached_50 : decode b_N_findReached 50 = .ok (.if_icmp .ge 50, 3) := by decide +kernel
theorem d_N_findReached_53 : decode b_N_findReached 53 = .ok (.iconst 0, 1) := by decide +kernel
theorem d_N_findReached_54 : decode b_N_findReached 54 = .ok (.istore_n 3, 1) := by decide +kernel
theorem d_N_findReached_55 : decode b_N_findReached 55 = .ok (.iload_n 3, 1) := by decide +kernel
theorem d_N_findReached_56 : decode b_N_findReached 56 = .ok (.iconst 4, 1) := by decide +kernel
theorem d_N_findReached_57 : decode b_N_findReached 57 = .ok (.if_icmp .ge 37, 3) := by decide +kernel
theorem d_N_findReached_60 : decode b_N_findReached 60 = .ok (.aload_n 0, 1) := by decide +kernel
theorem d_N_findReached_61 : decode b_N_findReached 61 = .ok (.getfield 22, 3) := by decide +kernel
theorem d_N_findReached_64 : decode b_N_findReached 64 = .ok (.iload_n 3, 1) := by decide +kernel
theorem d_N_findReached_65 : decode b_N_findReached 65 = .ok (.iaload, 1) := by decide +kernel
theorem d_N_findReached_66 : decode b_N_findReached 66 = .ok (.iload_n 2, 1) := by decide +kernel
theorem d_N_findReached_67 : decode b_N_findReached 67 = .ok (.invokestatic 53, 3) := by decide +kernel
theorem d_N_findReached_70 : decode b_N_findReached 70 = .ok (.ifCond .eq 18, 3) := by decide +kernel
theorem d_N_findReached_73 : decode b_N_findReached 73 = .ok (.aload_n 0, 1) := by decide +kernel
theorem d_N_findReached_74 : decode b_N_findReached 74 = .ok (.getfield 22, 3) := by decide +kernel
theorem d_N_findReached_77 : decode b_N_findReached 77 = .ok (.iload_n 3, 1) := by decide +kernel
theorem d_N_findReached_78 : decode b_N_findReached 78 = .ok (.dup2, 1) := by decide +kernel
theorem d_N_findReached_79 : decode b_N_findReached 79 = .ok (.iaload, 1) := by decide +kernel
theorem d_N_findReached_80 : decode b_N_findReached 80 = .ok (.aload_n 0, 1) := by decide +kernel
theorem d_N_findReached_81 : decode b_N_findReached 81 = .ok (.getfield 22, 3) := by decide +kernel
theorem d_N_findReached_84 : decode b_N_findReached 84 = .ok (.iload_n 2, 1) := by decide +kernel
theorem d_N_findReached_85 : decode b_N_findReached 85 = .ok (.iaload, 1) := by decide +kernel
theorem d_N_findReached_86 : decode b_N_findReached 86 = .ok (.ior, 1) := by decide +kernel
theorem d_N_findReached_87 : decode b_N_findReached 87 = .ok (.iastore, 1) := by decide +kernel
theorem d_N_findReached_88 : decode b_N_findReached 88 = .ok (.iinc 3 1, 3) := by decide +kernel
theorem d_N_findReached_91 : decode b_N_findReached 91 = .ok (.goto (-36), 3) := by decide +kernel
theorem d_N_findReached_94 : decode b_N_findReached 94 = .ok (.iinc 2 1, 3) := by decide +kernel
theorem d_N_findReached_97 : decode b_N_findReached 97 = .ok (.goto (-49), 3) := by decide +kernel
theorem d_N_findReached_100 : decode b_N_findReached 100 = .ok (.return_, 1) := by decide +kernel
theorem d_N_isOuter_0 : decode b_N_isOuter 0 = .ok (.aload_n 0, 1) := by decide +kernel
theorem d_N_isOuter_1 : decode b_N_isOuter 1 = .ok (.aload_n 1, 1) := by decide +kernel
theorem d_N_isOuter_2 : decode b_N_isOuter 2 = .ok (.getfield 47, 3) := by decide +kernel
theorem d_N_isOuter_5 : decode b_N_isOuter 5 = .ok (.iload_n 2, 1) := by decide +kernel
theorem d_N_isOuter_6 : decode b_N_isOuter 6 = .ok (.iaload, 1) := by decide +kernel
theorem d_N_isOuter_7 : decode b_N_isOuter 7 = .ok (.aload_n 1, 1) := by decide +kernel
theorem d_N_isOuter_8 : decode b_N_isOuter 8 = .ok (.getfield 50, 3) := by decide +kernel
theorem d_N_isOuter_11 : decode b_N_isOuter 11 = .ok (.iload_n 2, 1) := by decide +kernel
theorem d_N_isOuter_12 : decode b_N_isOuter 12 = .ok (.iaload, 1) := by decide +kernel
theorem d_N_isOuter_13 : decode b_N_isOuter 13 = .ok (.invokevirtual 71, 3) := by decide +kernel
theorem d_N_isOuter_16 : decode b_N_isOuter 16 = .ok (.ifCond .ne 7, 3) := by decide +kernel
theorem d_N_isOuter_19 : decode b_N_isOuter 19 = .ok (.iconst 1, 1) := by decide +kernel
theorem d_N_isOuter_20 : decode b_N_isOuter 20 = .ok (.goto 4, 3) := by decide +kernel
theorem d_N_isOuter_23 : decode b_N_isOuter 23 = .ok (.iconst 0, 1) := by decide +kernel
theorem d_N_isOuter_24 : decode b_N_isOuter 24 = .ok (.ireturn, 1) := by decide +kernel
theorem d_P_accept_0 : decode b_P_accept 0 = .ok (.iload_n 1, 1) := by decide +kernel
theorem d_P_accept_1 : decode b_P_accept 1 = .ok (.bipush 16, 2) := by decide +kernel
theorem d_P_accept_3 : decode b_P_accept 3 = .ok (.invokestatic 41, 3) := by decide +kernel
theorem d_P_accept_6 : decode b_P_accept 6 = .ok (.ifCond .eq 12, 3) := by decide +kernel
theorem d_P_accept_9 : decode b_P_accept 9 = .ok (.iload_n 2, 1) := by decide +kernel
theorem d_P_accept_10 : decode b_P_accept 10 = .ok (.bipush 16, 2) := by decide +kernel
theorem d_P_accept_12 : decode b_P_accept 12 = .ok (.invokestatic 41, 3) := by decide +kernel
theorem d_P_accept_15 : decode b_P_accept 15 = .ok (.ifCond .ne 5, 3) := by decide +kernel
theorem d_P_accept_18 : decode b_P_accept 18 = .ok (.iconst 0, 1) := by decide +kernel
theorem d_P_accept_19 : decode b_P_accept 19 = .ok (.ireturn, 1) := by decide +kernel
theorem d_P_accept_20 : decode b_P_accept 20 = .ok (.aload_n 0, 1) := by decide +kernel
theorem d_P_accept_21 : decode b_P_accept 21 = .ok (.getfield 12, 3) := by decide +kernel
theorem d_P_accept_24 : decode b_P_accept 24 = .ok (.getfield 49, 3) := by decide +kernel
theorem d_P_accept_27 : decode b_P_accept 27 = .ok (.iload_n 1, 1) := by decide +kernel
theorem d_P_accept_28 : decode b_P_accept 28 = .ok (.iload_n 2, 1) := by decide +kernel
theorem d_P_accept_29 : decode b_P_accept 29 = .ok (.iastore, 1) := by decide +kernel
theorem d_P_accept_30 : decode b_P_accept 30 = .ok (.iconst 1, 1) := by decide +kernel
theorem d_P_accept_31 : decode b_P_accept 31 = .ok (.ireturn, 1) := by decide +kernel
theorem d_P_alias_0 : decode b_P_alias 0 = .ok (.aload_n 0, 1) := by decide +kernel
theorem d_P_alias_1 : decode b_P_alias 1 = .ok (.iload_n 1, 1) := by decide +kernel
theorem d_P_alias_2 : decode b_P_alias 2 = .ok (.iload_n 2, 1) := by decide +kernel
theorem d_P_alias_3 : decode b_P_alias 3 = .ok (.invokevirtual 82, 3) := by decide +kernel
theorem d_P_alias_6 : decode b_P_alias 6 = .ok (.ifCond .eq 13, 3) := by decide +kernel
theorem d_P_alias_9 : decode b_P_alias 9 = .ok (.aload_n 0, 1) := by decide +kernel
theorem d_P_alias_10 : decode b_P_alias 10 = .ok (.iload_n 3, 1) := by decide +kernel
theorem d_P_alias_11 : decode b_P_alias 11 = .ok (.iload 4, 2) := by decide +kernel
theorem d_P_alias_13 : decode b_P_alias 13 = .ok (.invokevirtual 82, 3) := by decide +kernel
theorem d_P_alias_16 : decode b_P_alias 16 = .ok (.ifCond .ne 5, 3) := by decide +kernel
theorem d_P_alias_19 : decode b_P_alias 19 = .ok (.iconst 0, 1) := by decide +kernel
theorem d_P_alias_20 : decode b_P_alias 20 = .ok (.ireturn, 1) := by decide +kernel
theorem d_P_alias_21 : decode b_P_alias 21 = .ok (.aload_n 0, 1) := by decide +kernel
theorem d_P_alias_22 : decode b_P_alias 22 = .ok (.getfield 26, 3) := by decide +kernel
theorem d_P_alias_25 : decode b_P_alias 25 = .ok (.iload_n 1, 1) := by decide +kernel
theorem d_P_alias_26 : decode b_P_alias 26 = .ok (.iload_n 2, 1) := by decide +kernel
theorem d_P_alias_27 : decode b_P_alias 27 = .ok (.invokevirtual 85, 3) := by decide +kernel
theorem d_P_alias_30 : decode b_P_alias 30 = .ok (.aload_n 0, 1) := by decide +kernel
theorem d_P_alias_31 : decode b_P_alias 31 = .ok (.getfield 26, 3) := by decide +kernel
theorem d_P_alias_34 : decode b_P_alias 34 = .ok (.iload_n 3, 1) := by decide +kernel
theorem d_P_alias_35 : decode b_P_alias 35 = .ok (.iload 4, 2) := by decide +kernel
theorem d_P_alias_37 : decode b_P_alias 37 = .ok (.invokevirtual 85, 3) := by decide +kernel
theorem d_P_alias_40 : decode b_P_alias 40 = .ok (.iand, 1) := by decide +kernel
theorem d_P_alias_41 : decode b_P_alias 41 = .ok (.ifCond .eq 7, 3) := by decide +kernel
theorem d_P_alias_44 : decode b_P_alias 44 = .ok (.iconst 1, 1) := by decide +kernel
theorem d_P_alias_45 : decode b_P_alias 45 = .ok (.goto 4, 3) := by decide +kernel
theorem d_P_alias_48 : decode b_P_alias 48 = .ok (.iconst 0, 1) := by decide +kernel
theorem d_P_alias_49 : decode b_P_alias 49 = .ok (.ireturn, 1) := by decide +kernel
theorem d_P_areOfOneMethod_0 : decode b_P_areOfOneMethod 0 = .ok (.iload_n 1, 1) := by decide +kernel
theorem d_P_areOfOneMethod_1 : decode b_P_areOfOneMethod 1 = .ok (.bipush 16, 2) := by decide +kernel
theorem d_P_areOfOneMethod_3 : decode b_P_areOfOneMethod 3 = .ok (.invokestatic 41, 3) := by decide +kernel
theorem d_P_areOfOneMethod_6 : decode b_P_areOfOneMethod 6 = .ok (.ifCond .eq 18, 3) := by decide +kernel
theorem d_P_areOfOneMethod_9 : decode b_P_areOfOneMethod 9 = .ok (.iload_n 0, 1) := by decide +kernel
theorem d_P_areOfOneMethod_10 : decode b_P_areOfOneMethod 10 = .ok (.iload_n 1, 1) := by decide +kernel
theorem d_P_areOfOneMethod_11 : decode b_P_areOfOneMethod 11 = .ok (.invokestatic 123, 3) := by decide +kernel
theorem d_P_areOfOneMethod_14 : decode b_P_areOfOneMethod 14 = .ok (.invokestatic 127, 3) := by decide +kernel
theorem d_P_areOfOneMethod_17 : decode b_P_areOfOneMethod 17 = .ok (.ifCond .eq 7, 3) := by decide +kernel
theorem d_P_areOfOneMethod_20 : decode b_P_areOfOneMethod 20 = .ok (.iconst 1, 1) := by decide +kernel
theorem d_P_areOfOneMethod_21 : decode b_P_areOfOneMethod 21 = .ok (.goto 4, 3) := by decide +kernel
theorem d_P_areOfOneMethod_24 : decode b_P_areOfOneMethod 24 = .ok (.iconst 0, 1) := by decide +kernel
theorem d_P_areOfOneMethod_25 : decode b_P_areOfOneMethod 25 = .ok (.ireturn, 1) := by decide +kernel
theorem d_P_call_0 : decode b_P_call 0 = .ok (.iload_n 1, 1) := by decide +kernel
theorem d_P_call_1 : decode b_P_call 1 = .ok (.iconst 4, 1) := by decide +kernel
theorem d_P_call_2 : decode b_P_call 2 = .ok (.invokestatic 41, 3) := by decide +kernel
theorem d_P_call_5 : decode b_P_call 5 = .ok (.ifCond .eq 11, 3) := by decide +kernel
theorem d_P_call_8 : decode b_P_call 8 = .ok (.iload_n 2, 1) := by decide +kernel
theorem d_P_call_9 : decode b_P_call 9 = .ok (.iconst 4, 1) := by decide +kernel
theorem d_P_call_10 : decode b_P_call 10 = .ok (.invokestatic 41, 3) := by decide +kernel
theorem d_P_call_13 : decode b_P_call 13 = .ok (.ifCond .ne 5, 3) := by decide +kernel
theorem d_P_call_16 : decode b_P_call 16 = .ok (.iconst (-1), 1) := by decide +kernel
theorem d_P_call_17 : decode b_P_call 17 = .ok (.ireturn, 1) := by decide +kernel
theorem d_P_call_18 : decode b_P_call 18 = .ok (.aload_n 0, 1) := by decide +kernel
theorem d_P_call_19 : decode b_P_call 19 = .ok (.getfield 12, 3) := by decide +kernel
theorem d_P_call_22 : decode b_P_call 22 = .ok (.iload_n 1, 1) := by decide +kernel
theorem d_P_call_23 : decode b_P_call 23 = .ok (.iload_n 2, 1) := by decide +kernel
theorem d_P_call_24 : decode b_P_call 24 = .ok (.invokevirtual 59, 3) := by decide +kernel
theorem d_P_call_27 : decode b_P_call 27 = .ok (.ireturn, 1) := by decide +kernel
theorem d_P_context_0 : decode b_P_context 0 = .ok (.iload_n 1, 1) := by decide +kernel
theorem d_P_context_1 : decode b_P_context 1 = .ok (.aload_n 0, 1) := by decide +kernel
theorem d_P_context_2 : decode b_P_context 2 = .ok (.getfield 19, 3) := by decide +kernel
theorem d_P_context_5 : decode b_P_context 5 = .ok (.getfield 94, 3) := by decide +kernel
theorem d_P_context_8 : decode b_P_context 8 = .ok (.invokestatic 41, 3) := by decide +kernel
theorem d_P_context_11 : decode b_P_context 11 = .ok (.ifCond .ne 5, 3) := by decide +kernel
theorem d_P_context_14 : decode b_P_context 14 = .ok (.iconst (-1), 1) := by decide +kernel
theorem d_P_context_15 : decode b_P_context 15 = .ok (.ireturn, 1) := by decide +kernel
theorem d_P_context_16 : decode b_P_context 16 = .ok (.iload_n 2, 1) := by decide +kernel
theorem d_P_context_17 : decode b_P_context 17 = .ok (.aload_n 0, 1) := by decide +kernel
theorem d_P_context_18 : decode b_P_context 18 = .ok (.getfield 19, 3) := by decide +kernel
theorem d_P_context_21 : decode b_P_context 21 = .ok (.getfield 91, 3) := by decide +kernel
theorem d_P_context_24 : decode b_P_context 24 = .ok (.aload_n 0, 1) := by decide +kernel
theorem d_P_context_25 : decode b_P_context 25 = .ok (.getfield 12, 3) := by decide +kernel
theorem d_P_context_28 : decode b_P_context 28 = .ok (.getfield 97, 3) := by decide +kernel
theorem d_P_context_31 : decode b_P_context 31 = .ok (.iload_n 1, 1) := by decide +kernel
theorem d_P_context_32 : decode b_P_context 32 = .ok (.iaload, 1) := by decide +kernel
theorem d_P_context_33 : decode b_P_context 33 = .ok (.iaload, 1) := by decide +kernel
theorem d_P_context_34 : decode b_P_context 34 = .ok (.invokestatic 41, 3) := by decide +kernel
theorem d_P_context_37 : decode b_P_context 37 = .ok (.ifCond .ne 5, 3) := by decide +kernel
theorem d_P_context_40 : decode b_P_context 40 = .ok (.iconst (-1), 1) := by decide +kernel
theorem d_P_context_41 : decode b_P_context 41 = .ok (.ireturn, 1) := by decide +kernel
theorem d_P_context_42 : decode b_P_context 42 = .ok (.aload_n 0, 1) := by decide +kernel
theorem d_P_context_43 : decode b_P_context 43 = .ok (.getfield 19, 3) := by decide +kernel
theorem d_P_context_46 : decode b_P_context 46 = .ok (.iload_n 1, 1) := by decide +kernel
theorem d_P_context_47 : decode b_P_context 47 = .ok (.iload_n 2, 1) := by decide +kernel
theorem d_P_context_48 : decode b_P_context 48 = .ok (.invokevirtual 100, 3) := by decide +kernel
theorem d_P_context_51 : decode b_P_context 51 = .ok (.ireturn, 1) := by decide +kernel
theorem d_P_contexts_0 : decode b_P_contexts 0 = .ok (.iload_n 1, 1) := by decide +kernel
theorem d_P_contexts_1 : decode b_P_contexts 1 = .ok (.iconst 4, 1) := by decide +kernel
theorem d_P_contexts_2 : decode b_P_contexts 2 = .ok (.invokestatic 41, 3) := by decide +kernel
theorem d_P_contexts_5 : decode b_P_contexts 5 = .ok (.ifCond .ne 5, 3) := by decide +kernel
theorem d_P_contexts_8 : decode b_P_contexts 8 = .ok (.iconst (-1), 1) := by decide +kernel
theorem d_P_contexts_9 : decode b_P_contexts 9 = .ok (.ireturn, 1) := by decide +kernel
theorem d_P_contexts_10 : decode b_P_contexts 10 = .ok (.aload_n 0, 1) := by decide +kernel
theorem d_P_contexts_11 : decode b_P_contexts 11 = .ok (.getfield 19, 3) := by decide +kernel
theorem d_P_contexts_14 : decode b_P_contexts 14 = .ok (.getfield 91, 3) := by decide +kernel
theorem d_P_contexts_17 : decode b_P_contexts 17 = .ok (.iload_n 1, 1) := by decide +kernel
theorem d_P_contexts_18 : decode b_P_contexts 18 = .ok (.iaload, 1) := by decide +kernel
theorem d_P_contexts_19 : decode b_P_contexts 19 = .ok (.ireturn, 1) := by decide +kernel
theorem d_P_copy_0 : decode b_P_copy 0 = .ok (.iload_n 1, 1) := by decide +kernel
theorem d_P_copy_1 : decode b_P_copy 1 = .ok (.iload_n 2, 1) := by decide +kernel
theorem d_P_copy_2 : decode b_P_copy 2 = .ok (.invokestatic 56, 3) := by decide +kernel
theorem d_P_copy_5 : decode b_P_copy 5 = .ok (.ifCond .ne 5, 3) := by decide +kernel
theorem d_P_copy_8 : decode b_P_copy 8 = .ok (.iconst (-1), 1) := by decide +kernel
theorem d_P_copy_9 : decode b_P_copy 9 = .ok (.ireturn, 1) := by decide +kernel
theorem d_P_copy_10 : decode b_P_copy 10 = .ok (.aload_n 0, 1) := by decide +kernel
theorem d_P_copy_11 : decode b_P_copy 11 = .ok (.getfield 12, 3) := by decide +kernel
theorem d_P_copy_14 : decode b_P_copy 14 = .ok (.iconst 1, 1) := by decide +kernel
theorem d_P_copy_15 : decode b_P_copy 15 = .ok (.iload_n 1, 1) := by decide +kernel
theorem d_P_copy_16 : decode b_P_copy 16 = .ok (.iload_n 2, 1) := by decide +kernel
theorem d_P_copy_17 : decode b_P_copy 17 = .ok (.iconst 0, 1) := by decide +kernel
theorem d_P_copy_18 : decode b_P_copy 18 = .ok (.invokevirtual 52, 3) := by decide +kernel
theorem d_P_copy_21 : decode b_P_copy 21 = .ok (.ireturn, 1) := by decide +kernel
theorem d_P_hasBit_0 : decode b_P_hasBit 0 = .ok (.iload_n 0, 1) := by decide +kernel
theorem d_P_hasBit_1 : decode b_P_hasBit 1 = .ok (.iload_n 1, 1) := by decide +kernel
theorem d_P_hasBit_2 : decode b_P_hasBit 2 = .ok (.ishr, 1) := by decide +kernel
theorem d_P_hasBit_3 : decode b_P_hasBit 3 = .ok (.iconst 1, 1) := by decide +kernel
theorem d_P_hasBit_4 : decode b_P_hasBit 4 = .ok (.iand, 1) := by decide +kernel
theorem d_P_hasBit_5 : decode b_P_hasBit 5 = .ok (.ifCond .eq 7, 3) := by decide +kernel
theorem d_P_hasBit_8 : decode b_P_hasBit 8 = .ok (.iconst 1, 1) := by decide +kernel
theorem d_P_hasBit_9 : decode b_P_hasBit 9 = .ok (.goto 4, 3) := by decide +kernel
theorem d_P_hasBit_12 : decode b_P_hasBit 12 = .ok (.iconst 0, 1) := by decide +kernel
theorem d_P_hasBit_13 : decode b_P_hasBit 13 = .ok (.ireturn, 1) := by decide +kernel
theorem d_P_holds_0 : decode b_P_holds 0 = .ok (.iload_n 1, 1) := by decide +kernel
theorem d_P_holds_1 : decode b_P_holds 1 = .ok (.bipush 8, 2) := by decide +kernel
theorem d_P_holds_3 : decode b_P_holds 3 = .ok (.invokestatic 41, 3) := by decide +kernel
theorem d_P_holds_6 : decode b_P_holds 6 = .ok (.ifCond .eq 11, 3) := by decide +kernel
theorem d_P_holds_9 : decode b_P_holds 9 = .ok (.iload_n 2, 1) := by decide +kernel
theorem d_P_holds_10 : decode b_P_holds 10 = .ok (.iconst 2, 1) := by decide +kernel
theorem d_P_holds_11 : decode b_P_holds 11 = .ok (.invokestatic 41, 3) := by decide +kernel
theorem d_P_holds_14 : decode b_P_holds 14 = .ok (.ifCond .ne 5, 3) := by decide +kernel
theorem d_P_holds_17 : decode b_P_holds 17 = .ok (.iconst 0, 1) := by decide +kernel
theorem d_P_holds_18 : decode b_P_holds 18 = .ok (.ireturn, 1) := by decide +kernel
theorem d_P_holds_19 : decode b_P_holds 19 = .ok (.aload_n 0, 1) := by decide +kernel
theorem d_P_holds_20 : decode b_P_holds 20 = .ok (.getfield 26, 3) := by decide +kernel
theorem d_P_holds_23 : decode b_P_holds 23 = .ok (.iload_n 1, 1) := by decide +kernel
theorem d_P_holds_24 : decode b_P_holds 24 = .ok (.iload_n 2, 1) := by decide +kernel
theorem d_P_holds_25 : decode b_P_holds 25 = .ok (.invokevirtual 88, 3) := by decide +kernel
theorem d_P_holds_28 : decode b_P_holds 28 = .ok (.ireturn, 1) := by decide +kernel
theorem d_P_isOfMethod_0 : decode b_P_isOfMethod 0 = .ok (.iload_n 0, 1) := by decide +kernel
theorem d_P_isOfMethod_1 : decode b_P_isOfMethod 1 = .ok (.bipush 16, 2) := by decide +kernel
theorem d_P_isOfMethod_3 : decode b_P_isOfMethod 3 = .ok (.invokestatic 41, 3) := by decide +kernel
theorem d_P_isOfMethod_6 : decode b_P_isOfMethod 6 = .ok (.ifCond .eq 15, 3) := by decide +kernel
theorem d_P_isOfMethod_9 : decode b_P_isOfMethod 9 = .ok (.iload_n 0, 1) := by decide +kernel
theorem d_P_isOfMethod_10 : decode b_P_isOfMethod 10 = .ok (.invokestatic 123, 3) := by decide +kernel
theorem d_P_isOfMethod_13 : decode b_P_isOfMethod 13 = .ok (.iload_n 1, 1) := by decide +kernel
theorem d_P_isOfMethod_14 : decode b_P_isOfMethod 14 = .ok (.if_icmp .ne 7, 3) := by decide +kernel
theorem d_P_isOfMethod_17 : decode b_P_isOfMethod 17 = .ok (.iconst 1, 1) := by decide +kernel
theorem d_P_isOfMethod_18 : decode b_P_isOfMethod 18 = .ok (.goto 4, 3) := by decide +kernel
theorem d_P_isOfMethod_21 : decode b_P_isOfMethod 21 = .ok (.iconst 0, 1) := by decide +kernel
theorem d_P_isOfMethod_22 : decode b_P_isOfMethod 22 = .ok (.ireturn, 1) := by decide +kernel
theorem d_P_isVariableIn_0 : decode b_P_isVariableIn 0 = .ok (.iload_n 2, 1) := by decide +kernel
theorem d_P_isVariableIn_1 : decode b_P_isVariableIn 1 = .ok (.bipush 16, 2) := by decide +kernel
theorem d_P_isVariableIn_3 : decode b_P_isVariableIn 3 = .ok (.invokestatic 41, 3) := by decide +kernel
theorem d_P_isVariableIn_6 : decode b_P_isVariableIn 6 = .ok (.ifCond .eq 26, 3) := by decide +kernel
theorem d_P_isVariableIn_9 : decode b_P_isVariableIn 9 = .ok (.iload_n 1, 1) := by decide +kernel
theorem d_P_isVariableIn_10 : decode b_P_isVariableIn 10 = .ok (.aload_n 0, 1) := by decide +kernel
theorem d_P_isVariableIn_11 : decode b_P_isVariableIn 11 = .ok (.getfield 19, 3) := by decide +kernel
theorem d_P_isVariableIn_14 : decode b_P_isVariableIn 14 = .ok (.getfield 91, 3) := by decide +kernel
theorem d_P_isVariableIn_17 : decode b_P_isVariableIn 17 = .ok (.iload_n 2, 1) := by decide +kernel
theorem d_P_isVariableIn_18 : decode b_P_isVariableIn 18 = .ok (.invokestatic 123, 3) := by decide +kernel
theorem d_P_isVariableIn_21 : decode b_P_isVariableIn 21 = .ok (.iaload, 1) := by decide +kernel
theorem d_P_isVariableIn_22 : decode b_P_isVariableIn 22 = .ok (.invokestatic 41, 3) := by decide +kernel
theorem d_P_isVariableIn_25 : decode b_P_isVariableIn 25 = .ok (.ifCond .eq 7, 3) := by decide +kernel
theorem d_P_isVariableIn_28 : decode b_P_isVariableIn 28 = .ok (.iconst 1, 1) := by decide +kernel
theorem d_P_isVariableIn_29 : decode b_P_isVariableIn 29 = .ok (.goto 4, 3) := by decide +kernel
theorem d_P_isVariableIn_32 : decode b_P_isVariableIn 32 = .ok (.iconst 0, 1) := by decide +kernel
theorem d_P_isVariableIn_33 : decode b_P_isVariableIn 33 = .ok (.ireturn, 1) := by decide +kernel
theorem d_P_isWithin_0 : decode b_P_isWithin 0 = .ok (.iload_n 0, 1) := by decide +kernel
theorem d_P_isWithin_1 : decode b_P_isWithin 1 = .ok (.ifCond .lt 12, 3) := by decide +kernel
theorem d_P_isWithin_4 : decode b_P_isWithin 4 = .ok (.iload_n 0, 1) := by decide +kernel
theorem d_P_isWithin_5 : decode b_P_isWithin 5 = .ok (.iload_n 1, 1) := by decide +kernel
theorem d_P_isWithin_6 : decode b_P_isWithin 6 = .ok (.if_icmp .ge 7, 3) := by decide +kernel
theorem d_P_isWithin_9 : decode b_P_isWithin 9 = .ok (.iconst 1, 1) := by decide +kernel
theorem d_P_isWithin_10 : decode b_P_isWithin 10 = .ok (.goto 4, 3) := by decide +kernel
theorem d_P_isWithin_13 : decode b_P_isWithin 13 = .ok (.iconst 0, 1) := by decide +kernel
theorem d_P_isWithin_14 : decode b_P_isWithin 14 = .ok (.ireturn, 1) := by decide +kernel
theorem d_P_kind_0 : decode b_P_kind 0 = .ok (.iload_n 1, 1) := by decide +kernel
theorem d_P_kind_1 : decode b_P_kind 1 = .ok (.bipush 8, 2) := by decide +kernel
theorem d_P_kind_3 : decode b_P_kind 3 = .ok (.invokestatic 41, 3) := by decide +kernel
theorem d_P_kind_6 : decode b_P_kind 6 = .ok (.ifCond .eq 11, 3) := by decide +kernel
theorem d_P_kind_9 : decode b_P_kind 9 = .ok (.iload_n 2, 1) := by decide +kernel
theorem d_P_kind_10 : decode b_P_kind 10 = .ok (.iconst 4, 1) := by decide +kernel
theorem d_P_kind_11 : decode b_P_kind 11 = .ok (.invokestatic 41, 3) := by decide +kernel
theorem d_P_kind_14 : decode b_P_kind 14 = .ok (.ifCond .ne 5, 3) := by decide +kernel
theorem d_P_kind_17 : decode b_P_kind 17 = .ok (.iconst 0, 1) := by decide +kernel
theorem d_P_kind_18 : decode b_P_kind 18 = .ok (.ireturn, 1) := by decide +kernel
theorem d_P_kind_19 : decode b_P_kind 19 = .ok (.aload_n 0, 1) := by decide +kernel
theorem d_P_kind_20 : decode b_P_kind 20 = .ok (.getfield 12, 3) := by decide +kernel
theorem d_P_kind_23 : decode b_P_kind 23 = .ok (.getfield 45, 3) := by decide +kernel
theorem d_P_kind_26 : decode b_P_kind 26 = .ok (.iload_n 1, 1) := by decide +kernel
theorem d_P_kind_27 : decode b_P_kind 27 = .ok (.iload_n 2, 1) := by decide +kernel
theorem d_P_kind_28 : decode b_P_kind 28 = .ok (.iastore, 1) := by decide +kernel
theorem d_P_kind_29 : decode b_P_kind 29 = .ok (.iconst 1, 1) := by decide +kernel
theorem d_P_kind_30 : decode b_P_kind 30 = .ok (.ireturn, 1) := by decide +kernel
theorem d_P_load_0 : decode b_P_load 0 = .ok (.iload_n 1, 1) := by decide +kernel
theorem d_P_load_1 : decode b_P_load 1 = .ok (.iload_n 2, 1) := by decide +kernel
theorem d_P_load_2 : decode b_P_load 2 = .ok (.invokestatic 56, 3) := by decide +kernel
theorem d_P_load_5 : decode b_P_load 5 = .ok (.ifCond .eq 11, 3) := by decide +kernel
theorem d_P_load_8 : decode b_P_load 8 = .ok (.iload_n 3, 1) := by decide +kernel
theorem d_P_load_9 : decode b_P_load 9 = .ok (.iconst 2, 1) := by decide +kernel
theorem d_P_load_10 : decode b_P_load 10 = .ok (.invokestatic 41, 3) := by decide +kernel
theorem d_P_load_13 : decode b_P_load 13 = .ok (.ifCond .ne 5, 3) := by decide +kernel
theorem d_P_load_16 : decode b_P_load 16 = .ok (.iconst (-1), 1) := by decide +kernel
theorem d_P_load_17 : decode b_P_load 17 = .ok (.ireturn, 1) := by decide +kernel
theorem d_P_load_18 : decode b_P_load 18 = .ok (.aload_n 0, 1) := by decide +kernel
theorem d_P_load_19 : decode b_P_load 19 = .ok (.getfield 12, 3) := by decide +kernel
theorem d_P_load_22 : decode b_P_load 22 = .ok (.iconst 3, 1) := by decide +kernel
theorem d_P_load_23 : decode b_P_load 23 = .ok (.iload_n 1, 1) := by decide +kernel
theorem d_P_load_24 : decode b_P_load 24 = .ok (.iload_n 2, 1) := by decide +kernel
theorem d_P_load_25 : decode b_P_load 25 = .ok (.iload_n 3, 1) := by decide +kernel
theorem d_P_load_26 : decode b_P_load 26 = .ok (.invokevirtual 52, 3) := by decide +kernel
theorem d_P_load_29 : decode b_P_load 29 = .ok (.ireturn, 1) := by decide +kernel
theorem d_P_make_0 : decode b_P_make 0 = .ok (.iload_n 1, 1) := by decide +kernel
theorem d_P_make_1 : decode b_P_make 1 = .ok (.bipush 16, 2) := by decide +kernel
theorem d_P_make_3 : decode b_P_make 3 = .ok (.invokestatic 41, 3) := by decide +kernel
theorem d_P_make_6 : decode b_P_make 6 = .ok (.ifCond .eq 12, 3) := by decide +kernel
theorem d_P_make_9 : decode b_P_make 9 = .ok (.iload_n 2, 1) := by decide +kernel
theorem d_P_make_10 : decode b_P_make 10 = .ok (.bipush 8, 2) := by decide +kernel
theorem d_P_make_12 : decode b_P_make 12 = .ok (.invokestatic 41, 3) := by decide +kernel
theorem d_P_make_15 : decode b_P_make 15 = .ok (.ifCond .ne 5, 3) := by decide +kernel
theorem d_P_make_18 : decode b_P_make 18 = .ok (.iconst (-1), 1) := by decide +kernel
theorem d_P_make_19 : decode b_P_make 19 = .ok (.ireturn, 1) := by decide +kernel
theorem d_P_make_20 : decode b_P_make 20 = .ok (.aload_n 0, 1) := by decide +kernel
theorem d_P_make_21 : decode b_P_make 21 = .ok (.getfield 12, 3) := by decide +kernel
theorem d_P_make_24 : decode b_P_make 24 = .ok (.iconst 0, 1) := by decide +kernel
theorem d_P_make_25 : decode b_P_make 25 = .ok (.iload_n 1, 1) := by decide +kernel
theorem d_P_make_26 : decode b_P_make 26 = .ok (.iload_n 2, 1) := by decide +kernel
theorem d_P_make_27 : decode b_P_make 27 = .ok (.iconst 0, 1) := by decide +kernel
theorem d_P_make_28 : decode b_P_make 28 = .ok (.invokevirtual 52, 3) := by decide +kernel
theorem d_P_make_31 : decode b_P_make 31 = .ok (.ireturn, 1) := by decide +kernel
theorem d_P_methodOf_0 : decode b_P_methodOf 0 = .ok (.iload_n 0, 1) := by decide +kernel
theorem d_P_methodOf_1 : decode b_P_methodOf 1 = .ok (.iconst 4, 1) := by decide +kernel
theorem d_P_methodOf_2 : decode b_P_methodOf 2 = .ok (.idiv, 1) := by decide +kernel
theorem d_P_methodOf_3 : decode b_P_methodOf 3 = .ok (.ireturn, 1) := by decide +kernel
theorem d_P_order_0 : decode b_P_order 0 = .ok (.iload_n 1, 1) := by decide +kernel
theorem d_P_order_1 : decode b_P_order 1 = .ok (.bipush 6, 2) := by decide +kernel
theorem d_P_order_3 : decode b_P_order 3 = .ok (.invokestatic 41, 3) := by decide +kernel
theorem d_P_order_6 : decode b_P_order 6 = .ok (.ifCond .ne 5, 3) := by decide +kernel
theorem d_P_order_9 : decode b_P_order 9 = .ok (.iconst 0, 1) := by decide +kernel
theorem d_P_order_10 : decode b_P_order 10 = .ok (.ireturn, 1) := by decide +kernel
theorem d_P_order_11 : decode b_P_order 11 = .ok (.aload_n 0, 1) := by decide +kernel
theorem d_P_order_12 : decode b_P_order 12 = .ok (.iload_n 1, 1) := by decide +kernel
theorem d_P_order_13 : decode b_P_order 13 = .ok (.putfield 37, 3) := by decide +kernel
theorem d_P_order_16 : decode b_P_order 16 = .ok (.iconst 1, 1) := by decide +kernel
theorem d_P_order_17 : decode b_P_order 17 = .ok (.ireturn, 1) := by decide +kernel
theorem d_P_pass_0 : decode b_P_pass 0 = .ok (.aload_n 0, 1) := by decide +kernel
theorem d_P_pass_1 : decode b_P_pass 1 = .ok (.getfield 12, 3) := by decide +kernel
theorem d_P_pass_4 : decode b_P_pass 4 = .ok (.iload_n 1, 1) := by decide +kernel
theorem d_P_pass_5 : decode b_P_pass 5 = .ok (.iload_n 2, 1) := by decide +kernel
theorem d_P_pass_6 : decode b_P_pass 6 = .ok (.iload_n 3, 1) := by decide +kernel
theorem d_P_pass_7 : decode b_P_pass 7 = .ok (.iload 4, 2) := by decide +kernel
theorem d_P_pass_9 : decode b_P_pass 9 = .ok (.invokevirtual 63, 3) := by decide +kernel
theorem d_P_pass_12 : decode b_P_pass 12 = .ok (.ifCond .ne 5, 3) := by decide +kernel
theorem d_P_pass_15 : decode b_P_pass 15 = .ok (.iconst (-1), 1) := by decide +kernel
theorem d_P_pass_16 : decode b_P_pass 16 = .ok (.ireturn, 1) := by decide +kernel
theorem d_P_pass_17 : decode b_P_pass 17 = .ok (.aload_n 0, 1) := by decide +kernel
theorem d_P_pass_18 : decode b_P_pass 18 = .ok (.getfield 12, 3) := by decide +kernel
theorem d_P_pass_21 : decode b_P_pass 21 = .ok (.iload_n 1, 1) := by decide +kernel
theorem d_P_pass_22 : decode b_P_pass 22 = .ok (.iload_n 2, 1) := by decide +kernel
theorem d_P_pass_23 : decode b_P_pass 23 = .ok (.iload_n 3, 1) := by decide +kernel
theorem d_P_pass_24 : decode b_P_pass 24 = .ok (.iload 4, 2) := by decide +kernel
theorem d_P_pass_26 : decode b_P_pass 26 = .ok (.invokevirtual 67, 3) := by decide +kernel
theorem d_P_pass_29 : decode b_P_pass 29 = .ok (.ireturn, 1) := by decide +kernel
theorem d_P_points_0 : decode b_P_points 0 = .ok (.aload_n 0, 1) := by decide +kernel
theorem d_P_points_1 : decode b_P_points 1 = .ok (.iload_n 1, 1) := by decide +kernel
theorem d_P_points_2 : decode b_P_points 2 = .ok (.iload_n 2, 1) := by decide +kernel
theorem d_P_points_3 : decode b_P_points 3 = .ok (.invokevirtual 82, 3) := by decide +kernel
theorem d_P_points_6 : decode b_P_points 6 = .ok (.ifCond .ne 5, 3) := by decide +kernel
theorem d_P_points_9 : decode b_P_points 9 = .ok (.iconst 0, 1) := by decide +kernel
theorem d_P_points_10 : decode b_P_points 10 = .ok (.ireturn, 1) := by decide +kernel
theorem d_P_points_11 : decode b_P_points 11 = .ok (.aload_n 0, 1) := by decide +kernel
theorem d_P_points_12 : decode b_P_points 12 = .ok (.getfield 26, 3) := by decide +kernel
theorem d_P_points_15 : decode b_P_points 15 = .ok (.iload_n 1, 1) := by decide +kernel
theorem d_P_points_16 : decode b_P_points 16 = .ok (.iload_n 2, 1) := by decide +kernel
theorem d_P_points_17 : decode b_P_points 17 = .ok (.invokevirtual 85, 3) := by decide +kernel
theorem d_P_points_20 : decode b_P_points 20 = .ok (.ireturn, 1) := by decide +kernel
theorem d_P_store_0 : decode b_P_store 0 = .ok (.iload_n 1, 1) := by decide +kernel
theorem d_P_store_1 : decode b_P_store 1 = .ok (.iload_n 3, 1) := by decide +kernel
theorem d_P_store_2 : decode b_P_store 2 = .ok (.invokestatic 56, 3) := by decide +kernel
theorem d_P_store_5 : decode b_P_store 5 = .ok (.ifCond .eq 11, 3) := by decide +kernel
theorem d_P_store_8 : decode b_P_store 8 = .ok (.iload_n 2, 1) := by decide +kernel
theorem d_P_store_9 : decode b_P_store 9 = .ok (.iconst 2, 1) := by decide +kernel
theorem d_P_store_10 : decode b_P_store 10 = .ok (.invokestatic 41, 3) := by decide +kernel
theorem d_P_store_13 : decode b_P_store 13 = .ok (.ifCond .ne 5, 3) := by decide +kernel
theorem d_P_store_16 : decode b_P_store 16 = .ok (.iconst (-1), 1) := by decide +kernel
theorem d_P_store_17 : decode b_P_store 17 = .ok (.ireturn, 1) := by decide +kernel
theorem d_P_store_18 : decode b_P_store 18 = .ok (.aload_n 0, 1) := by decide +kernel
theorem d_P_store_19 : decode b_P_store 19 = .ok (.getfield 12, 3) := by decide +kernel
theorem d_P_store_22 : decode b_P_store 22 = .ok (.iconst 2, 1) := by decide +kernel
theorem d_P_store_23 : decode b_P_store 23 = .ok (.iload_n 1, 1) := by decide +kernel
theorem d_P_store_24 : decode b_P_store 24 = .ok (.iload_n 3, 1) := by decide +kernel
theorem d_P_store_25 : decode b_P_store 25 = .ok (.iload_n 2, 1) := by decide +kernel
theorem d_P_store_26 : decode b_P_store 26 = .ok (.invokevirtual 52, 3) := by decide +kernel
theorem d_P_store_29 : decode b_P_store 29 = .ok (.ireturn, 1) := by decide +kernel
theorem d_T_addHeld_0 : decode b_T_addHeld 0 = .ok (.iconst 0, 1) := by decide +kernel
theorem d_T_addHeld_1 : decode b_T_addHeld 1 = .ok (.istore 4, 2) := by decide +kernel
theorem d_T_addHeld_3 : decode b_T_addHeld 3 = .ok (.iload 4, 2) := by decide +kernel
theorem d_T_addHeld_5 : decode b_T_addHeld 5 = .ok (.bipush 8, 2) := by decide +kernel
theorem d_T_addHeld_7 : decode b_T_addHeld 7 = .ok (.if_icmp .ge 33, 3) := by decide +kernel
theorem d_T_addHeld_10 : decode b_T_addHeld 10 = .ok (.iload_n 1, 1) := by decide +kernel
theorem d_T_addHeld_11 : decode b_T_addHeld 11 = .ok (.iload 4, 2) := by decide +kernel
theorem d_T_addHeld_13 : decode b_T_addHeld 13 = .ok (.invokestatic 60, 3) := by decide +kernel
theorem d_T_addHeld_16 : decode b_T_addHeld 16 = .ok (.ifCond .eq 18, 3) := by decide +kernel
theorem d_T_addHeld_19 : decode b_T_addHeld 19 = .ok (.aload_n 0, 1) := by decide +kernel
theorem d_T_addHeld_20 : decode b_T_addHeld 20 = .ok (.aload_n 0, 1) := by decide +kernel
theorem d_T_addHeld_21 : decode b_T_addHeld 21 = .ok (.getfield 15, 3) := by decide +kernel
theorem d_T_addHeld_24 : decode b_T_addHeld 24 = .ok (.iload 4, 2) := by decide +kernel
theorem d_T_addHeld_26 : decode b_T_addHeld 26 = .ok (.iconst 2, 1) := by decide +kernel
theorem d_T_addHeld_27 : decode b_T_addHeld 27 = .ok (.imul, 1) := by decide +kernel
theorem d_T_addHeld_28 : decode b_T_addHeld 28 = .ok (.iload_n 2, 1) := by decide +kernel
theorem d_T_addHeld_29 : decode b_T_addHeld 29 = .ok (.iadd, 1) := by decide +kernel
theorem d_T_addHeld_30 : decode b_T_addHeld 30 = .ok (.iload_n 3, 1) := by decide +kernel
theorem d_T_addHeld_31 : decode b_T_addHeld 31 = .ok (.invokevirtual 132, 3) := by decide +kernel
theorem d_T_addHeld_34 : decode b_T_addHeld 34 = .ok (.iinc 4 1, 3) := by decide +kernel
theorem d_T_addHeld_37 : decode b_T_addHeld 37 = .ok (.goto (-34), 3) := by decide +kernel
theorem d_T_addHeld_40 : decode b_T_addHeld 40 = .ok (.return_, 1) := by decide +kernel
theorem d_T_addPointed_0 : decode b_T_addPointed 0 = .ok (.aload_n 0, 1) := by decide +kernel
theorem d_T_addPointed_1 : decode b_T_addPointed 1 = .ok (.aload_n 0, 1) := by decide +kernel
theorem d_T_addPointed_2 : decode b_T_addPointed 2 = .ok (.getfield 11, 3) := by decide +kernel
theorem d_T_addPointed_5 : decode b_T_addPointed 5 = .ok (.iload_n 1, 1) := by decide +kernel
theorem d_T_addPointed_6 : decode b_T_addPointed 6 = .ok (.bipush 16, 2) := by decide +kernel
theorem d_T_addPointed_8 : decode b_T_addPointed 8 = .ok (.imul, 1) := by decide +kernel
theorem d_T_addPointed_9 : decode b_T_addPointed 9 = .ok (.iload_n 2, 1) := by decide +kernel
theorem d_T_addPointed_10 : decode b_T_addPointed 10 = .ok (.iadd, 1) := by decide +kernel
theorem d_T_addPointed_11 : decode b_T_addPointed 11 = .ok (.iload_n 3, 1) := by decide +kernel
theorem d_T_addPointed_12 : decode b_T_addPointed 12 = .ok (.aload_n 0, 1) := by decide +kernel
theorem d_T_addPointed_13 : decode b_T_addPointed 13 = .ok (.getfield 18, 3) := by decide +kernel
theorem d_T_addPointed_16 : decode b_T_addPointed 16 = .ok (.iload_n 2, 1) := by decide +kernel
theorem d_T_addPointed_17 : decode b_T_addPointed 17 = .ok (.iaload, 1) := by decide +kernel
theorem d_T_addPointed_18 : decode b_T_addPointed 18 = .ok (.iand, 1) := by decide +kernel
theorem d_T_addPointed_19 : decode b_T_addPointed 19 = .ok (.invokevirtual 132, 3) := by decide +kernel
theorem d_T_addPointed_22 : decode b_T_addPointed 22 = .ok (.return_, 1) := by decide +kernel
theorem d_T_addTo_0 : decode b_T_addTo 0 = .ok (.aload_n 1, 1) := by decide +kernel
theorem d_T_addTo_1 : decode b_T_addTo 1 = .ok (.iload_n 2, 1) := by decide +kernel
theorem d_T_addTo_2 : decode b_T_addTo 2 = .ok (.iaload, 1) := by decide +kernel
theorem d_T_addTo_3 : decode b_T_addTo 3 = .ok (.iload_n 3, 1) := by decide +kernel
theorem d_T_addTo_4 : decode b_T_addTo 4 = .ok (.ior, 1) := by decide +kernel
theorem d_T_addTo_5 : decode b_T_addTo 5 = .ok (.istore 4, 2) := by decide +kernel
theorem d_T_addTo_7 : decode b_T_addTo 7 = .ok (.iload 4, 2) := by decide +kernel
theorem d_T_addTo_9 : decode b_T_addTo 9 = .ok (.aload_n 1, 1) := by decide +kernel
theorem d_T_addTo_10 : decode b_T_addTo 10 = .ok (.iload_n 2, 1) := by decide +kernel
theorem d_T_addTo_11 : decode b_T_addTo 11 = .ok (.iaload, 1) := by decide +kernel
theorem d_T_addTo_12 : decode b_T_addTo 12 = .ok (.if_icmp .eq 13, 3) := by decide +kernel
theorem d_T_addTo_15 : decode b_T_addTo 15 = .ok (.aload_n 1, 1) := by decide +kernel
theorem d_T_addTo_16 : decode b_T_addTo 16 = .ok (.iload_n 2, 1) := by decide +kernel
theorem d_T_addTo_17 : decode b_T_addTo 17 = .ok (.iload 4, 2) := by decide +kernel
theorem d_T_addTo_19 : decode b_T_addTo 19 = .ok (.iastore, 1) := by decide +kernel
theorem d_T_addTo_20 : decode b_T_addTo 20 = .ok (.aload_n 0, 1) := by decide +kernel
theorem d_T_addTo_21 : decode b_T_addTo 21 = .ok (.iconst 1, 1) := by decide +kernel
theorem d_T_addTo_22 : decode b_T_addTo 22 = .ok (.putfield 21, 3) := by decide +kernel
theorem d_T_addTo_25 : decode b_T_addTo 25 = .ok (.return_, 1) := by decide +kernel
theorem d_T_applyCalls_0 : decode b_T_applyCalls 0 = .ok (.iconst 0, 1) := by decide +kernel
theorem d_T_applyCalls_1 : decode b_T_applyCalls 1 = .ok (.istore_n 3, 1) := by decide +kernel
theorem d_T_applyCalls_2 : decode b_T_applyCalls 2 = .ok (.iload_n 3, 1) := by decide +kernel
theorem d_T_applyCalls_3 : decode b_T_applyCalls 3 = .ok (.aload_n 1, 1) := by decide +kernel
theorem d_T_applyCalls_4 : decode b_T_applyCalls 4 = .ok (.getfield 106, 3) := by decide +kernel
theorem d_T_applyCalls_7 : decode b_T_applyCalls 7 = .ok (.if_icmp .ge 53, 3) := by decide +kernel
theorem d_T_applyCalls_10 : decode b_T_applyCalls 10 = .ok (.aload_n 2, 1) := by decide +kernel
theorem d_T_applyCalls_11 : decode b_T_applyCalls 11 = .ok (.getfield 68, 3) := by decide +kernel
theorem d_T_applyCalls_14 : decode b_T_applyCalls 14 = .ok (.aload_n 1, 1) := by decide +kernel
theorem d_T_applyCalls_15 : decode b_T_applyCalls 15 = .ok (.getfield 109, 3) := by decide +kernel
theorem d_T_applyCalls_18 : decode b_T_applyCalls 18 = .ok (.iload_n 3, 1) := by decide +kernel
theorem d_T_applyCalls_19 : decode b_T_applyCalls 19 = .ok (.iaload, 1) := by decide +kernel
theorem d_T_applyCalls_20 : decode b_T_applyCalls 20 = .ok (.iaload, 1) := by decide +kernel
theorem d_T_applyCalls_21 : decode b_T_applyCalls 21 = .ok (.istore 4, 2) := by decide +kernel
theorem d_T_applyCalls_23 : decode b_T_applyCalls 23 = .ok (.iconst 0, 1) := by decide +kernel
theorem d_T_applyCalls_24 : decode b_T_applyCalls 24 = .ok (.istore 5, 2) := by decide +kernel
theorem d_T_applyCalls_26 : decode b_T_applyCalls 26 = .ok (.iload 5, 2) := by decide +kernel
theorem d_T_applyCalls_28 : decode b_T_applyCalls 28 = .ok (.iload 4, 2) := by decide +kernel
theorem d_T_applyCalls_30 : decode b_T_applyCalls 30 = .ok (.if_icmp .ge 24, 3) := by decide +kernel
theorem d_T_applyCalls_33 : decode b_T_applyCalls 33 = .ok (.aload_n 0, 1) := by decide +kernel
theorem d_T_applyCalls_34 : decode b_T_applyCalls 34 = .ok (.aload_n 1, 1) := by decide +kernel
theorem d_T_applyCalls_35 : decode b_T_applyCalls 35 = .ok (.iload_n 3, 1) := by decide +kernel
theorem d_T_applyCalls_36 : decode b_T_applyCalls 36 = .ok (.iload 5, 2) := by decide +kernel
theorem d_T_applyCalls_38 : decode b_T_applyCalls 38 = .ok (.aload_n 2, 1) := by decide +kernel
theorem d_T_applyCalls_39 : decode b_T_applyCalls 39 = .ok (.iload_n 3, 1) := by decide +kernel
theorem d_T_applyCalls_40 : decode b_T_applyCalls 40 = .ok (.iload 5, 2) := by decide +kernel
theorem d_T_applyCalls_42 : decode b_T_applyCalls 42 = .ok (.invokevirtual 112, 3) := by decide +kernel
theorem d_T_applyCalls_45 : decode b_T_applyCalls 45 = .ok (.invokevirtual 115, 3) := by decide +kernel
theorem d_T_applyCalls_48 : decode b_T_applyCalls 48 = .ok (.iinc 5 1, 3) := by decide +kernel
theorem d_T_applyCalls_51 : decode b_T_applyCalls 51 = .ok (.goto (-25), 3) := by decide +kernel
theorem d_T_applyCalls_54 : decode b_T_applyCalls 54 = .ok (.iinc 3 1, 3) := by decide +kernel
theorem d_T_applyCalls_57 : decode b_T_applyCalls 57 = .ok (.goto (-55), 3) := by decide +kernel
theorem d_T_applyCalls_60 : decode b_T_applyCalls 60 = .ok (.return_, 1) := by decide +kernel
theorem d_T_applyPasses_0 : decode b_T_applyPasses 0 = .ok (.iload_n 2, 1) := by decide +kernel
theorem d_T_applyPasses_1 : decode b_T_applyPasses 1 = .ok (.iconst 4, 1) := by decide +kernel
theorem d_T_applyPasses_2 : decode b_T_applyPasses 2 = .ok (.imul, 1) := by decide +kernel
theorem d_T_applyPasses_3 : decode b_T_applyPasses 3 = .ok (.istore 5, 2) := by decide +kernel
theorem d_T_applyPasses_5 : decode b_T_applyPasses 5 = .ok (.iload 5, 2) := by decide +kernel
theorem d_T_applyPasses_7 : decode b_T_applyPasses 7 = .ok (.aload_n 1, 1) := by decide +kernel
theorem d_T_applyPasses_8 : decode b_T_applyPasses 8 = .ok (.getfield 119, 3) := by decide +kernel
theorem d_T_applyPasses_11 : decode b_T_applyPasses 11 = .ok (.iload_n 2, 1) := by decide +kernel
theorem d_T_applyPasses_12 : decode b_T_applyPasses 12 = .ok (.iaload, 1) := by decide +kernel
theorem d_T_applyPasses_13 : decode b_T_applyPasses 13 = .ok (.iadd, 1) := by decide +kernel
theorem d_T_applyPasses_14 : decode b_T_applyPasses 14 = .ok (.istore 6, 2) := by decide +kernel
theorem d_T_applyPasses_16 : decode b_T_applyPasses 16 = .ok (.iload 5, 2) := by decide +kernel
theorem d_T_applyPasses_18 : decode b_T_applyPasses 18 = .ok (.istore 7, 2) := by decide +kernel
theorem d_T_applyPasses_20 : decode b_T_applyPasses 20 = .ok (.iload 7, 2) := by decide +kernel
theorem d_T_applyPasses_22 : decode b_T_applyPasses 22 = .ok (.iload 6, 2) := by decide +kernel
theorem d_T_applyPasses_24 : decode b_T_applyPasses 24 = .ok (.if_icmp .ge 70, 3) := by decide +kernel
theorem d_T_applyPasses_27 : decode b_T_applyPasses 27 = .ok (.aload_n 1, 1) := by decide +kernel
theorem d_T_applyPasses_28 : decode b_T_applyPasses 28 = .ok (.getfield 122, 3) := by decide +kernel
theorem d_T_applyPasses_31 : decode b_T_applyPasses 31 = .ok (.iload 7, 2) := by decide +kernel
theorem d_T_applyPasses_33 : decode b_T_applyPasses 33 = .ok (.iaload, 1) := by decide +kernel
theorem d_T_applyPasses_34 : decode b_T_applyPasses 34 = .ok (.istore 8, 2) := by decide +kernel
theorem d_T_applyPasses_36 : decode b_T_applyPasses 36 = .ok (.aload_n 1, 1) := by decide +kernel
theorem d_T_applyPasses_37 : decode b_T_applyPasses 37 = .ok (.getfield 125, 3) := by decide +kernel
theorem d_T_applyPasses_40 : decode b_T_applyPasses 40 = .ok (.iload 7, 2) := by decide +kernel
theorem d_T_applyPasses_42 : decode b_T_applyPasses 42 = .ok (.iaload, 1) := by decide +kernel
theorem d_T_applyPasses_43 : decode b_T_applyPasses 43 = .ok (.istore 9, 2) := by decide +kernel
theorem d_T_applyPasses_45 : decode b_T_applyPasses 45 = .ok (.aload_n 1, 1) := by decide +kernel
theorem d_T_applyPasses_46 : decode b_T_applyPasses 46 = .ok (.getfield 128, 3) := by decide +kernel
theorem d_T_applyPasses_49 : decode b_T_applyPasses 49 = .ok (.iload 7, 2) := by decide +kernel
theorem d_T_applyPasses_51 : decode b_T_applyPasses 51 = .ok (.baload, 1) := by decide +kernel
theorem d_T_applyPasses_52 : decode b_T_applyPasses 52 = .ok (.ifCond .eq 21, 3) := by decide +kernel
theorem d_T_applyPasses_55 : decode b_T_applyPasses 55 = .ok (.aload_n 0, 1) := by decide +kernel
theorem d_T_applyPasses_56 : decode b_T_applyPasses 56 = .ok (.iload_n 3, 1) := by decide +kernel
theorem d_T_applyPasses_57 : decode b_T_applyPasses 57 = .ok (.iload 8, 2) := by decide +kernel
theorem d_T_applyPasses_59 : decode b_T_applyPasses 59 = .ok (.aload_n 0, 1) := by decide +kernel
theorem d_T_applyPasses_60 : decode b_T_applyPasses 60 = .ok (.iload 4, 2) := by decide +kernel
theorem d_T_applyPasses_62 : decode b_T_applyPasses 62 = .ok (.iload 9, 2) := by decide +kernel
theorem d_T_applyPasses_64 : decode b_T_applyPasses 64 = .ok (.invokevirtual 96, 3) := by decide +kernel
theorem d_T_applyPasses_67 : decode b_T_applyPasses 67 = .ok (.invokevirtual 92, 3) := by decide +kernel
theorem d_T_applyPasses_70 : decode b_T_applyPasses 70 = .ok (.goto 18, 3) := by decide +kernel
theorem d_T_applyPasses_73 : decode b_T_applyPasses 73 = .ok (.aload_n 0, 1) := by decide +kernel
theorem d_T_applyPasses_74 : decode b_T_applyPasses 74 = .ok (.iload 4, 2) := by decide +kernel
theorem d_T_applyPasses_76 : decode b_T_applyPasses 76 = .ok (.iload 8, 2) := by decide +kernel
theorem d_T_applyPasses_78 : decode b_T_applyPasses 78 = .ok (.aload_n 0, 1) := by decide +kernel
theorem d_T_applyPasses_79 : decode b_T_applyPasses 79 = .ok (.iload_n 3, 1) := by decide +kernel
theorem d_T_applyPasses_80 : decode b_T_applyPasses 80 = .ok (.iload 9, 2) := by decide +kernel
theorem d_T_applyPasses_82 : decode b_T_applyPasses 82 = .ok (.invokevirtual 96, 3) := by decide +kernel
theorem d_T_applyPasses_85 : decode b_T_applyPasses 85 = .ok (.invokevirtual 92, 3) := by decide +kernel
theorem d_T_applyPasses_88 : decode b_T_applyPasses 88 = .ok (.iinc 7 1, 3) := by decide +kernel
theorem d_T_applyPasses_91 : decode b_T_applyPasses 91 = .ok (.goto (-71), 3) := by decide +kernel
theorem d_T_applyPasses_94 : decode b_T_applyPasses 94 = .ok (.return_, 1) := by decide +kernel
theorem d_T_applyStatement_0 : decode b_T_applyStatement 0 = .ok (.aload_n 1, 1) := by decide +kernel
theorem d_T_applyStatement_1 : decode b_T_applyStatement 1 = .ok (.getfield 73, 3) := by decide +kernel
theorem d_T_applyStatement_4 : decode b_T_applyStatement 4 = .ok (.iload_n 2, 1) := by decide +kernel
theorem d_T_applyStatement_5 : decode b_T_applyStatement 5 = .ok (.iaload, 1) := by decide +kernel
theorem d_T_applyStatement_6 : decode b_T_applyStatement 6 = .ok (.istore 4, 2) := by decide +kernel
theorem d_T_applyStatement_8 : decode b_T_applyStatement 8 = .ok (.aload_n 1, 1) := by decide +kernel
theorem d_T_applyStatement_9 : decode b_T_applyStatement 9 = .ok (.getfield 83, 3) := by decide +kernel
theorem d_T_applyStatement_12 : decode b_T_applyStatement 12 = .ok (.iload_n 2, 1) := by decide +kernel
theorem d_T_applyStatement_13 : decode b_T_applyStatement 13 = .ok (.iaload, 1) := by decide +kernel
theorem d_T_applyStatement_14 : decode b_T_applyStatement 14 = .ok (.istore 5, 2) := by decide +kernel
theorem d_T_applyStatement_16 : decode b_T_applyStatement 16 = .ok (.aload_n 1, 1) := by decide +kernel
theorem d_T_applyStatement_17 : decode b_T_applyStatement 17 = .ok (.getfield 86, 3) := by decide +kernel
theorem d_T_applyStatement_20 : decode b_T_applyStatement 20 = .ok (.iload_n 2, 1) := by decide +kernel
theorem d_T_applyStatement_21 : decode b_T_applyStatement 21 = .ok (.iaload, 1) := by decide +kernel
theorem d_T_applyStatement_22 : decode b_T_applyStatement 22 = .ok (.istore 6, 2) := by decide +kernel
theorem d_T_applyStatement_24 : decode b_T_applyStatement 24 = .ok (.aload_n 1, 1) := by decide +kernel
theorem d_T_applyStatement_25 : decode b_T_applyStatement 25 = .ok (.getfield 89, 3) := by decide +kernel
theorem d_T_applyStatement_28 : decode b_T_applyStatement 28 = .ok (.iload_n 2, 1) := by decide +kernel
theorem d_T_applyStatement_29 : decode b_T_applyStatement 29 = .ok (.iaload, 1) := by decide +kernel
theorem d_T_applyStatement_30 : decode b_T_applyStatement 30 = .ok (.tableswitch 80 0 2 #[26, 40, 57], 26) := by decide +kernel
theorem d_T_applyStatement_56 : decode b_T_applyStatement 56 = .ok (.aload_n 0, 1) := by decide +kernel
theorem d_T_applyStatement_57 : decode b_T_applyStatement 57 = .ok (.iload_n 3, 1) := by decide +kernel
theorem d_T_applyStatement_58 : decode b_T_applyStatement 58 = .ok (.iload 4, 2) := by decide +kernel
theorem d_T_applyStatement_60 : decode b_T_applyStatement 60 = .ok (.iconst 1, 1) := by decide +kernel
theorem d_T_applyStatement_61 : decode b_T_applyStatement 61 = .ok (.iload 5, 2) := by decide +kernel
theorem d_T_applyStatement_63 : decode b_T_applyStatement 63 = .ok (.ishl, 1) := by decide +kernel
theorem d_T_applyStatement_64 : decode b_T_applyStatement 64 = .ok (.invokevirtual 92, 3) := by decide +kernel
theorem d_T_applyStatement_67 : decode b_T_applyStatement 67 = .ok (.goto 63, 3) := by decide +kernel
theorem d_T_applyStatement_70 : decode b_T_applyStatement 70 = .ok (.aload_n 0, 1) := by decide +kernel
theorem d_T_applyStatement_71 : decode b_T_applyStatement 71 = .ok (.iload_n 3, 1) := by decide +kernel
theorem d_T_applyStatement_72 : decode b_T_applyStatement 72 = .ok (.iload 4, 2) := by decide +kernel
theorem d_T_applyStatement_74 : decode b_T_applyStatement 74 = .ok (.aload_n 0, 1) := by decide +kernel
theorem d_T_applyStatement_75 : decode b_T_applyStatement 75 = .ok (.iload_n 3, 1) := by decide +kernel
theorem d_T_applyStatement_76 : decode b_T_applyStatement 76 = .ok (.iload 5, 2) := by decide +kernel
theorem d_T_applyStatement_78 : decode b_T_applyStatement 78 = .ok (.invokevirtual 96, 3) := by decide +kernel
theorem d_T_applyStatement_81 : decode b_T_applyStatement 81 = .ok (.invokevirtual 92, 3) := by decide +kernel
theorem d_T_applyStatement_84 : decode b_T_applyStatement 84 = .ok (.goto 46, 3) := by decide +kernel
theorem d_T_applyStatement_87 : decode b_T_applyStatement 87 = .ok (.aload_n 0, 1) := by decide +kernel
theorem d_T_applyStatement_88 : decode b_T_applyStatement 88 = .ok (.aload_n 0, 1) := by decide +kernel
theorem d_T_applyStatement_89 : decode b_T_applyStatement 89 = .ok (.iload_n 3, 1) := by decide +kernel
theorem d_T_applyStatement_90 : decode b_T_applyStatement 90 = .ok (.iload 4, 2) := by decide +kernel
theorem d_T_applyStatement_92 : decode b_T_applyStatement 92 = .ok (.invokevirtual 96, 3) := by decide +kernel
theorem d_T_applyStatement_95 : decode b_T_applyStatement 95 = .ok (.iload 6, 2) := by decide +kernel
theorem d_T_applyStatement_97 : decode b_T_applyStatement 97 = .ok (.aload_n 0, 1) := by decide +kernel
theorem d_T_applyStatement_98 : decode b_T_applyStatement 98 = .ok (.iload_n 3, 1) := by decide +kernel
theorem d_T_applyStatement_99 : decode b_T_applyStatement 99 = .ok (.iload 5, 2) := by decide +kernel
theorem d_T_applyStatement_101 : decode b_T_applyStatement 101 = .ok (.invokevirtual 96, 3) := by decide +kernel
theorem d_T_applyStatement_104 : decode b_T_applyStatement 104 = .ok (.invokevirtual 100, 3) := by decide +kernel
theorem d_T_applyStatement_107 : decode b_T_applyStatement 107 = .ok (.goto 23, 3) := by decide +kernel
theorem d_T_applyStatement_110 : decode b_T_applyStatement 110 = .ok (.aload_n 0, 1) := by decide +kernel
theorem d_T_applyStatement_111 : decode b_T_applyStatement 111 = .ok (.iload_n 3, 1) := by decide +kernel
theorem d_T_applyStatement_112 : decode b_T_applyStatement 112 = .ok (.iload 4, 2) := by decide +kernel
theorem d_T_applyStatement_114 : decode b_T_applyStatement 114 = .ok (.aload_n 0, 1) := by decide +kernel
theorem d_T_applyStatement_115 : decode b_T_applyStatement 115 = .ok (.aload_n 0, 1) := by decide +kernel
theorem d_T_applyStatement_116 : decode b_T_applyStatement 116 = .ok (.iload_n 3, 1) := by decide +kernel
theorem d_T_applyStatement_117 : decode b_T_applyStatement 117 = .ok (.iload 5, 2) := by decide +kernel
theorem d_T_applyStatement_119 : decode b_T_applyStatement 119 = .ok (.invokevirtual 96, 3) := by decide +kernel
theorem d_T_applyStatement_122 : decode b_T_applyStatement 122 = .ok (.iload 6, 2) := by decide +kernel
theorem d_T_applyStatement_124 : decode b_T_applyStatement 124 = .ok (.invokevirtual 103, 3) := by decide +kernel
theorem d_T_applyStatement_127 : decode b_T_applyStatement 127 = .ok (.invokevirtual 92, 3) := by decide +kernel
theorem d_T_applyStatement_130 : decode b_T_applyStatement 130 = .ok (.return_, 1) := by decide +kernel
theorem d_T_applyStatements_0 : decode b_T_applyStatements 0 = .ok (.iconst 0, 1) := by decide +kernel
theorem d_T_applyStatements_1 : decode b_T_applyStatements 1 = .ok (.istore_n 3, 1) := by decide +kernel
theorem d_T_applyStatements_2 : decode b_T_applyStatements 2 = .ok (.iload_n 3, 1) := by decide +kernel
theorem d_T_applyStatements_3 : decode b_T_applyStatements 3 = .ok (.aload_n 1, 1) := by decide +kernel
theorem d_T_applyStatements_4 : decode b_T_applyStatements 4 = .ok (.getfield 64, 3) := by decide +kernel
theorem d_T_applyStatements_7 : decode b_T_applyStatements 7 = .ok (.if_icmp .ge 49, 3) := by decide +kernel
theorem d_T_applyStatements_10 : decode b_T_applyStatements 10 = .ok (.aload_n 2, 1) := by decide +kernel
theorem d_T_applyStatements_11 : decode b_T_applyStatements 11 = .ok (.getfield 68, 3) := by decide +kernel
theorem d_T_applyStatements_14 : decode b_T_applyStatements 14 = .ok (.aload_n 1, 1) := by decide +kernel
theorem d_T_applyStatements_15 : decode b_T_applyStatements 15 = .ok (.getfield 73, 3) := by decide +kernel
theorem d_T_applyStatements_18 : decode b_T_applyStatements 18 = .ok (.iload_n 3, 1) := by decide +kernel
theorem d_T_applyStatements_19 : decode b_T_applyStatements 19 = .ok (.iaload, 1) := by decide +kernel
theorem d_T_applyStatements_20 : decode b_T_applyStatements 20 = .ok (.invokestatic 76, 3) := by decide +kernel
theorem d_T_applyStatements_23 : decode b_T_applyStatements 23 = .ok (.iaload, 1) := by decide +kernel
theorem d_T_applyStatements_24 : decode b_T_applyStatements 24 = .ok (.istore 4, 2) := by decide +kernel
theorem d_T_applyStatements_26 : decode b_T_applyStatements 26 = .ok (.iconst 0, 1) := by decide +kernel
theorem d_T_applyStatements_27 : decode b_T_applyStatements 27 = .ok (.istore 5, 2) := by decide +kernel
theorem d_T_applyStatements_29 : decode b_T_applyStatements 29 = .ok (.iload 5, 2) := by decide +kernel
theorem d_T_applyStatements_31 : decode b_T_applyStatements 31 = .ok (.iload 4, 2) := by decide +kernel
theorem d_T_applyStatements_33 : decode b_T_applyStatements 33 = .ok (.if_icmp .ge 17, 3) := by decide +kernel
theorem d_T_applyStatements_36 : decode b_T_applyStatements 36 = .ok (.aload_n 0, 1) := by decide +kernel
theorem d_T_applyStatements_37 : decode b_T_applyStatements 37 = .ok (.aload_n 1, 1) := by decide +kernel
theorem d_T_applyStatements_38 : decode b_T_applyStatements 38 = .ok (.iload_n 3, 1) := by decide +kernel
theorem d_T_applyStatements_39 : decode b_T_applyStatements 39 = .ok (.iload 5, 2) := by decide +kernel
theorem d_T_applyStatements_41 : decode b_T_applyStatements 41 = .ok (.invokevirtual 79, 3) := by decide +kernel
theorem d_T_applyStatements_44 : decode b_T_applyStatements 44 = .ok (.iinc 5 1, 3) := by decide +kernel
theorem d_T_applyStatements_47 : decode b_T_applyStatements 47 = .ok (.goto (-18), 3) := by decide +kernel
theorem d_T_applyStatements_50 : decode b_T_applyStatements 50 = .ok (.iinc 3 1, 3) := by decide +kernel
theorem d_T_applyStatements_53 : decode b_T_applyStatements 53 = .ok (.goto (-51), 3) := by decide +kernel
theorem d_T_applyStatements_56 : decode b_T_applyStatements 56 = .ok (.return_, 1) := by decide +kernel
theorem d_T_findWelcome_0 : decode b_T_findWelcome 0 = .ok (.iconst 0, 1) := by decide +kernel
theorem d_T_findWelcome_1 : decode b_T_findWelcome 1 = .ok (.istore_n 2, 1) := by decide +kernel
theorem d_T_findWelcome_2 : decode b_T_findWelcome 2 = .ok (.iload_n 2, 1) := by decide +kernel
theorem d_T_findWelcome_3 : decode b_T_findWelcome 3 = .ok (.bipush 16, 2) := by decide +kernel
theorem d_T_findWelcome_5 : decode b_T_findWelcome 5 = .ok (.if_icmp .ge 60, 3) := by decide +kernel
theorem d_T_findWelcome_8 : decode b_T_findWelcome 8 = .ok (.iconst 0, 1) := by decide +kernel
theorem d_T_findWelcome_9 : decode b_T_findWelcome 9 = .ok (.istore_n 3, 1) := by decide +kernel
theorem d_T_findWelcome_10 : decode b_T_findWelcome 10 = .ok (.iconst 0, 1) := by decide +kernel
theorem d_T_findWelcome_11 : decode b_T_findWelcome 11 = .ok (.istore 4, 2) := by decide +kernel
theorem d_T_findWelcome_13 : decode b_T_findWelcome 13 = .ok (.iload 4, 2) := by decide +kernel
theorem d_T_findWelcome_15 : decode b_T_findWelcome 15 = .ok (.bipush 8, 2) := by decide +kernel
theorem d_T_findWelcome_17 : decode b_T_findWelcome 17 = .ok (.if_icmp .ge 35, 3) := by decide +kernel
theorem d_T_findWelcome_20 : decode b_T_findWelcome 20 = .ok (.aload_n 1, 1) := by decide +kernel
theorem d_T_findWelcome_21 : decode b_T_findWelcome 21 = .ok (.getfield 52, 3) := by decide +kernel
theorem d_T_findWelcome_24 : decode b_T_findWelcome 24 = .ok (.iload_n 2, 1) := by decide +kernel
theorem d_T_findWelcome_25 : decode b_T_findWelcome 25 = .ok (.iaload, 1) := by decide +kernel
theorem d_T_findWelcome_26 : decode b_T_findWelcome 26 = .ok (.aload_n 1, 1) := by decide +kernel
theorem d_T_findWelcome_27 : decode b_T_findWelcome 27 = .ok (.getfield 57, 3) := by decide +kernel
theorem d_T_findWelcome_30 : decode b_T_findWelcome 30 = .ok (.iload 4, 2) := by decide +kernel
theorem d_T_findWelcome_32 : decode b_T_findWelcome 32 = .ok (.iaload, 1) := by decide +kernel
theorem d_T_findWelcome_33 : decode b_T_findWelcome 33 = .ok (.invokestatic 60, 3) := by decide +kernel
theorem d_T_findWelcome_36 : decode b_T_findWelcome 36 = .ok (.ifCond .eq 10, 3) := by decide +kernel
theorem d_T_findWelcome_39 : decode b_T_findWelcome 39 = .ok (.iload_n 3, 1) := by decide +kernel
theorem d_T_findWelcome_40 : decode b_T_findWelcome 40 = .ok (.iconst 1, 1) := by decide +kernel
theorem d_T_findWelcome_41 : decode b_T_findWelcome 41 = .ok (.iload 4, 2) := by decide +kernel
theorem d_T_findWelcome_43 : decode b_T_findWelcome 43 = .ok (.ishl, 1) := by decide +kernel
theorem d_T_findWelcome_44 : decode b_T_findWelcome 44 = .ok (.ior, 1) := by decide +kernel
theorem d_T_findWelcome_45 : decode b_T_findWelcome 45 = .ok (.istore_n 3, 1) := by decide +kernel
theorem d_T_findWelcome_46 : decode b_T_findWelcome 46 = .ok (.iinc 4 1, 3) := by decide +kernel
theorem d_T_findWelcome_49 : decode b_T_findWelcome 49 = .ok (.goto (-36), 3) := by decide +kernel
theorem d_T_findWelcome_52 : decode b_T_findWelcome 52 = .ok (.aload_n 0, 1) := by decide +kernel
theorem d_T_findWelcome_53 : decode b_T_findWelcome 53 = .ok (.getfield 18, 3) := by decide +kernel
theorem d_T_findWelcome_56 : decode b_T_findWelcome 56 = .ok (.iload_n 2, 1) := by decide +kernel
theorem d_T_findWelcome_57 : decode b_T_findWelcome 57 = .ok (.iload_n 3, 1) := by decide +kernel
theorem d_T_findWelcome_58 : decode b_T_findWelcome 58 = .ok (.iastore, 1) := by decide +kernel
theorem d_T_findWelcome_59 : decode b_T_findWelcome 59 = .ok (.iinc 2 1, 3) := by decide +kernel
theorem d_T_findWelcome_62 : decode b_T_findWelcome 62 = .ok (.goto (-60), 3) := by decide +kernel
theorem d_T_findWelcome_65 : decode b_T_findWelcome 65 = .ok (.return_, 1) := by decide +kernel
theorem d_T_heldIn_0 : decode b_T_heldIn 0 = .ok (.aload_n 0, 1) := by decide +kernel
theorem d_T_heldIn_1 : decode b_T_heldIn 1 = .ok (.getfield 15, 3) := by decide +kernel
theorem d_T_heldIn_4 : decode b_T_heldIn 4 = .ok (.iload_n 1, 1) := by decide +kernel
theorem d_T_heldIn_5 : decode b_T_heldIn 5 = .ok (.iconst 2, 1) := by decide +kernel
theorem d_T_heldIn_6 : decode b_T_heldIn 6 = .ok (.imul, 1) := by decide +kernel
theorem d_T_heldIn_7 : decode b_T_heldIn 7 = .ok (.iload_n 2, 1) := by decide +kernel
theorem d_T_heldIn_8 : decode b_T_heldIn 8 = .ok (.iadd, 1) := by decide +kernel
theorem d_T_heldIn_9 : decode b_T_heldIn 9 = .ok (.iaload, 1) := by decide +kernel
theorem d_T_heldIn_10 : decode b_T_heldIn 10 = .ok (.ireturn, 1) := by decide +kernel
theorem d_T_heldInAny_0 : decode b_T_heldInAny 0 = .ok (.iconst 0, 1) := by decide +kernel
theorem d_T_heldInAny_1 : decode b_T_heldInAny 1 = .ok (.istore_n 3, 1) := by decide +kernel
theorem d_T_heldInAny_2 : decode b_T_heldInAny 2 = .ok (.iconst 0, 1) := by decide +kernel
theorem d_T_heldInAny_3 : decode b_T_heldInAny 3 = .ok (.istore 4, 2) := by decide +kernel
theorem d_T_heldInAny_5 : decode b_T_heldInAny 5 = .ok (.iload 4, 2) := by decide +kernel
theorem d_T_heldInAny_7 : decode b_T_heldInAny 7 = .ok (.bipush 8, 2) := by decide +kernel
theorem d_T_heldInAny_9 : decode b_T_heldInAny 9 = .ok (.if_icmp .ge 28, 3) := by decide +kernel
theorem d_T_heldInAny_12 : decode b_T_heldInAny 12 = .ok (.iload_n 1, 1) := by decide +kernel
theorem d_T_heldInAny_13 : decode b_T_heldInAny 13 = .ok (.iload 4, 2) := by decide +kernel
theorem d_T_heldInAny_15 : decode b_T_heldInAny 15 = .ok (.invokestatic 60, 3) := by decide +kernel
theorem d_T_heldInAny_18 : decode b_T_heldInAny 18 = .ok (.ifCond .eq 13, 3) := by decide +kernel
theorem d_T_heldInAny_21 : decode b_T_heldInAny 21 = .ok (.iload_n 3, 1) := by decide +kernel
theorem d_T_heldInAny_22 : decode b_T_heldInAny 22 = .ok (.aload_n 0, 1) := by decide +kernel
theorem d_T_heldInAny_23 : decode b_T_heldInAny 23 = .ok (.iload 4, 2) := by decide +kernel
theorem d_T_heldInAny_25 : decode b_T_heldInAny 25 = .ok (.iload_n 2, 1) := by decide +kernel
theorem d_T_heldInAny_26 : decode b_T_heldInAny 26 = .ok (.invokevirtual 136, 3) := by decide +kernel
theorem d_T_heldInAny_29 : decode b_T_heldInAny 29 = .ok (.ior, 1) := by decide +kernel
theorem d_T_heldInAny_30 : decode b_T_heldInAny 30 = .ok (.istore_n 3, 1) := by decide +kernel
theorem d_T_heldInAny_31 : decode b_T_heldInAny 31 = .ok (.iinc 4 1, 3) := by decide +kernel
theorem d_T_heldInAny_34 : decode b_T_heldInAny 34 = .ok (.goto (-29), 3) := by decide +kernel
theorem d_T_heldInAny_37 : decode b_T_heldInAny 37 = .ok (.iload_n 3, 1) := by decide +kernel
theorem d_T_heldInAny_38 : decode b_T_heldInAny 38 = .ok (.ireturn, 1) := by decide +kernel
theorem d_T_pointedTo_0 : decode b_T_pointedTo 0 = .ok (.aload_n 0, 1) := by decide +kernel
theorem d_T_pointedTo_1 : decode b_T_pointedTo 1 = .ok (.getfield 11, 3) := by decide +kernel
theorem d_T_pointedTo_4 : decode b_T_pointedTo 4 = .ok (.iload_n 1, 1) := by decide +kernel
theorem d_T_pointedTo_5 : decode b_T_pointedTo 5 = .ok (.bipush 16, 2) := by decide +kernel
theorem d_T_pointedTo_7 : decode b_T_pointedTo 7 = .ok (.imul, 1) := by decide +kernel
theorem d_T_pointedTo_8 : decode b_T_pointedTo 8 = .ok (.iload_n 2, 1) := by decide +kernel
theorem d_T_pointedTo_9 : decode b_T_pointedTo 9 = .ok (.iadd, 1) := by decide +kernel
theorem d_T_pointedTo_10 : decode b_T_pointedTo 10 = .ok (.iaload, 1) := by decide +kernel
theorem d_T_pointedTo_11 : decode b_T_pointedTo 11 = .ok (.ireturn, 1) := by decide +kernel
