theorem d_M_carry_0 : decode b_M_carry 0 = .ok (.iconst 0, 1) := by decide +kernel
theorem d_M_carry_1 : decode b_M_carry 1 = .ok (.istore_n 3, 1) := by decide +kernel
theorem d_M_carry_2 : decode b_M_carry 2 = .ok (.aload_n 0, 1) := by decide +kernel
theorem d_M_carry_3 : decode b_M_carry 3 = .ok (.getfield 56, 3) := by decide +kernel
theorem d_M_carry_6 : decode b_M_carry 6 = .ok (.iload_n 1, 1) := by decide +kernel
theorem d_M_carry_7 : decode b_M_carry 7 = .ok (.iaload, 1) := by decide +kernel
theorem d_M_carry_8 : decode b_M_carry 8 = .ok (.iload_n 2, 1) := by decide +kernel
theorem d_M_carry_9 : decode b_M_carry 9 = .ok (.iadd, 1) := by decide +kernel
theorem d_M_carry_10 : decode b_M_carry 10 = .ok (.istore 4, 2) := by decide +kernel
theorem d_M_carry_12 : decode b_M_carry 12 = .ok (.iconst 4, 1) := by decide +kernel
theorem d_M_carry_13 : decode b_M_carry 13 = .ok (.iload_n 1, 1) := by decide +kernel
theorem d_M_carry_14 : decode b_M_carry 14 = .ok (.imul, 1) := by decide +kernel
theorem d_M_carry_15 : decode b_M_carry 15 = .ok (.istore 5, 2) := by decide +kernel
theorem d_M_carry_17 : decode b_M_carry 17 = .ok (.iload 5, 2) := by decide +kernel
theorem d_M_carry_19 : decode b_M_carry 19 = .ok (.iconst 4, 1) := by decide +kernel
theorem d_M_carry_20 : decode b_M_carry 20 = .ok (.iload_n 1, 1) := by decide +kernel
theorem d_M_carry_21 : decode b_M_carry 21 = .ok (.imul, 1) := by decide +kernel
theorem d_M_carry_22 : decode b_M_carry 22 = .ok (.aload_n 0, 1) := by decide +kernel
theorem d_M_carry_23 : decode b_M_carry 23 = .ok (.getfield 34, 3) := by decide +kernel
theorem d_M_carry_26 : decode b_M_carry 26 = .ok (.iload_n 1, 1) := by decide +kernel
theorem d_M_carry_27 : decode b_M_carry 27 = .ok (.iaload, 1) := by decide +kernel
theorem d_M_carry_28 : decode b_M_carry 28 = .ok (.iadd, 1) := by decide +kernel
theorem d_M_carry_29 : decode b_M_carry 29 = .ok (.if_icmp .ge 93, 3) := by decide +kernel
theorem d_M_carry_32 : decode b_M_carry 32 = .ok (.aload_n 0, 1) := by decide +kernel
theorem d_M_carry_33 : decode b_M_carry 33 = .ok (.getfield 43, 3) := by decide +kernel
theorem d_M_carry_36 : decode b_M_carry 36 = .ok (.iload 5, 2) := by decide +kernel
theorem d_M_carry_38 : decode b_M_carry 38 = .ok (.baload, 1) := by decide +kernel
theorem d_M_carry_39 : decode b_M_carry 39 = .ok (.ifCond .eq 8, 3) := by decide +kernel
theorem d_M_carry_42 : decode b_M_carry 42 = .ok (.iload 4, 2) := by decide +kernel
theorem d_M_carry_44 : decode b_M_carry 44 = .ok (.goto 4, 3) := by decide +kernel
theorem d_M_carry_47 : decode b_M_carry 47 = .ok (.iload_n 2, 1) := by decide +kernel
theorem d_M_carry_48 : decode b_M_carry 48 = .ok (.istore 6, 2) := by decide +kernel
theorem d_M_carry_50 : decode b_M_carry 50 = .ok (.aload_n 0, 1) := by decide +kernel
theorem d_M_carry_51 : decode b_M_carry 51 = .ok (.getfield 43, 3) := by decide +kernel
theorem d_M_carry_54 : decode b_M_carry 54 = .ok (.iload 5, 2) := by decide +kernel
theorem d_M_carry_56 : decode b_M_carry 56 = .ok (.baload, 1) := by decide +kernel
theorem d_M_carry_57 : decode b_M_carry 57 = .ok (.ifCond .eq 7, 3) := by decide +kernel
theorem d_M_carry_60 : decode b_M_carry 60 = .ok (.iload_n 2, 1) := by decide +kernel
theorem d_M_carry_61 : decode b_M_carry 61 = .ok (.goto 5, 3) := by decide +kernel
theorem d_M_carry_64 : decode b_M_carry 64 = .ok (.iload 4, 2) := by decide +kernel
theorem d_M_carry_66 : decode b_M_carry 66 = .ok (.istore 7, 2) := by decide +kernel
theorem d_M_carry_68 : decode b_M_carry 68 = .ok (.aload_n 0, 1) := by decide +kernel
theorem d_M_carry_69 : decode b_M_carry 69 = .ok (.iload 7, 2) := by decide +kernel
theorem d_M_carry_71 : decode b_M_carry 71 = .ok (.aload_n 0, 1) := by decide +kernel
theorem d_M_carry_72 : decode b_M_carry 72 = .ok (.getfield 37, 3) := by decide +kernel
theorem d_M_carry_75 : decode b_M_carry 75 = .ok (.iload 5, 2) := by decide +kernel
theorem d_M_carry_77 : decode b_M_carry 77 = .ok (.iaload, 1) := by decide +kernel
theorem d_M_carry_78 : decode b_M_carry 78 = .ok (.aload_n 0, 1) := by decide +kernel
theorem d_M_carry_79 : decode b_M_carry 79 = .ok (.getfield 62, 3) := by decide +kernel
theorem d_M_carry_82 : decode b_M_carry 82 = .ok (.bipush 16, 2) := by decide +kernel
theorem d_M_carry_84 : decode b_M_carry 84 = .ok (.iload 6, 2) := by decide +kernel
theorem d_M_carry_86 : decode b_M_carry 86 = .ok (.imul, 1) := by decide +kernel
theorem d_M_carry_87 : decode b_M_carry 87 = .ok (.aload_n 0, 1) := by decide +kernel
theorem d_M_carry_88 : decode b_M_carry 88 = .ok (.getfield 40, 3) := by decide +kernel
theorem d_M_carry_91 : decode b_M_carry 91 = .ok (.iload 5, 2) := by decide +kernel
theorem d_M_carry_93 : decode b_M_carry 93 = .ok (.iaload, 1) := by decide +kernel
theorem d_M_carry_94 : decode b_M_carry 94 = .ok (.iadd, 1) := by decide +kernel
theorem d_M_carry_95 : decode b_M_carry 95 = .ok (.iaload, 1) := by decide +kernel
theorem d_M_carry_96 : decode b_M_carry 96 = .ok (.invokevirtual 104, 3) := by decide +kernel
theorem d_M_carry_99 : decode b_M_carry 99 = .ok (.istore 8, 2) := by decide +kernel
theorem d_M_carry_101 : decode b_M_carry 101 = .ok (.iload_n 3, 1) := by decide +kernel
theorem d_M_carry_102 : decode b_M_carry 102 = .ok (.ifCond .ne 8, 3) := by decide +kernel
theorem d_M_carry_105 : decode b_M_carry 105 = .ok (.iload 8, 2) := by decide +kernel
theorem d_M_carry_107 : decode b_M_carry 107 = .ok (.ifCond .eq 7, 3) := by decide +kernel
theorem d_M_carry_110 : decode b_M_carry 110 = .ok (.iconst 1, 1) := by decide +kernel
theorem d_M_carry_111 : decode b_M_carry 111 = .ok (.goto 4, 3) := by decide +kernel
theorem d_M_carry_114 : decode b_M_carry 114 = .ok (.iconst 0, 1) := by decide +kernel
theorem d_M_carry_115 : decode b_M_carry 115 = .ok (.istore_n 3, 1) := by decide +kernel
theorem d_M_carry_116 : decode b_M_carry 116 = .ok (.iinc 5 1, 3) := by decide +kernel
theorem d_M_carry_119 : decode b_M_carry 119 = .ok (.goto (-102), 3) := by decide +kernel
theorem d_M_carry_122 : decode b_M_carry 122 = .ok (.iload_n 3, 1) := by decide +kernel
theorem d_M_carry_123 : decode b_M_carry 123 = .ok (.ireturn, 1) := by decide +kernel
theorem d_M_round_0 : decode b_M_round 0 = .ok (.iconst 0, 1) := by decide +kernel
theorem d_M_round_1 : decode b_M_round 1 = .ok (.istore_n 1, 1) := by decide +kernel
theorem d_M_round_2 : decode b_M_round 2 = .ok (.iconst 0, 1) := by decide +kernel
theorem d_M_round_3 : decode b_M_round 3 = .ok (.istore_n 2, 1) := by decide +kernel
theorem d_M_round_4 : decode b_M_round 4 = .ok (.iload_n 2, 1) := by decide +kernel
theorem d_M_round_5 : decode b_M_round 5 = .ok (.aload_n 0, 1) := by decide +kernel
theorem d_M_round_6 : decode b_M_round 6 = .ok (.getfield 75, 3) := by decide +kernel
theorem d_M_round_9 : decode b_M_round 9 = .ok (.if_icmp .ge 57, 3) := by decide +kernel
theorem d_M_round_12 : decode b_M_round 12 = .ok (.iconst 0, 1) := by decide +kernel
theorem d_M_round_13 : decode b_M_round 13 = .ok (.istore_n 3, 1) := by decide +kernel
theorem d_M_round_14 : decode b_M_round 14 = .ok (.iload_n 3, 1) := by decide +kernel
theorem d_M_round_15 : decode b_M_round 15 = .ok (.aload_n 0, 1) := by decide +kernel
theorem d_M_round_16 : decode b_M_round 16 = .ok (.getfield 53, 3) := by decide +kernel
theorem d_M_round_19 : decode b_M_round 19 = .ok (.aload_n 0, 1) := by decide +kernel
theorem d_M_round_20 : decode b_M_round 20 = .ok (.getfield 19, 3) := by decide +kernel
theorem d_M_round_23 : decode b_M_round 23 = .ok (.iload_n 2, 1) := by decide +kernel
theorem d_M_round_24 : decode b_M_round 24 = .ok (.iaload, 1) := by decide +kernel
theorem d_M_round_25 : decode b_M_round 25 = .ok (.iconst 4, 1) := by decide +kernel
theorem d_M_round_26 : decode b_M_round 26 = .ok (.idiv, 1) := by decide +kernel
theorem d_M_round_27 : decode b_M_round 27 = .ok (.iaload, 1) := by decide +kernel
theorem d_M_round_28 : decode b_M_round 28 = .ok (.if_icmp .ge 32, 3) := by decide +kernel
theorem d_M_round_31 : decode b_M_round 31 = .ok (.aload_n 0, 1) := by decide +kernel
theorem d_M_round_32 : decode b_M_round 32 = .ok (.iload_n 2, 1) := by decide +kernel
theorem d_M_round_33 : decode b_M_round 33 = .ok (.iload_n 3, 1) := by decide +kernel
theorem d_M_round_34 : decode b_M_round 34 = .ok (.invokevirtual 114, 3) := by decide +kernel
theorem d_M_round_37 : decode b_M_round 37 = .ok (.istore 4, 2) := by decide +kernel
theorem d_M_round_39 : decode b_M_round 39 = .ok (.iload_n 1, 1) := by decide +kernel
theorem d_M_round_40 : decode b_M_round 40 = .ok (.ifCond .ne 8, 3) := by decide +kernel
theorem d_M_round_43 : decode b_M_round 43 = .ok (.iload 4, 2) := by decide +kernel
theorem d_M_round_45 : decode b_M_round 45 = .ok (.ifCond .eq 7, 3) := by decide +kernel
theorem d_M_round_48 : decode b_M_round 48 = .ok (.iconst 1, 1) := by decide +kernel
theorem d_M_round_49 : decode b_M_round 49 = .ok (.goto 4, 3) := by decide +kernel
theorem d_M_round_52 : decode b_M_round 52 = .ok (.iconst 0, 1) := by decide +kernel
theorem d_M_round_53 : decode b_M_round 53 = .ok (.istore_n 1, 1) := by decide +kernel
theorem d_M_round_54 : decode b_M_round 54 = .ok (.iinc 3 1, 3) := by decide +kernel
theorem d_M_round_57 : decode b_M_round 57 = .ok (.goto (-43), 3) := by decide +kernel
theorem d_M_round_60 : decode b_M_round 60 = .ok (.iinc 2 1, 3) := by decide +kernel
theorem d_M_round_63 : decode b_M_round 63 = .ok (.goto (-59), 3) := by decide +kernel
theorem d_M_round_66 : decode b_M_round 66 = .ok (.iconst 0, 1) := by decide +kernel
theorem d_M_round_67 : decode b_M_round 67 = .ok (.istore_n 2, 1) := by decide +kernel
theorem d_M_round_68 : decode b_M_round 68 = .ok (.iload_n 2, 1) := by decide +kernel
theorem d_M_round_69 : decode b_M_round 69 = .ok (.aload_n 0, 1) := by decide +kernel
theorem d_M_round_70 : decode b_M_round 70 = .ok (.getfield 86, 3) := by decide +kernel
theorem d_M_round_73 : decode b_M_round 73 = .ok (.if_icmp .ge 55, 3) := by decide +kernel
theorem d_M_round_76 : decode b_M_round 76 = .ok (.iconst 0, 1) := by decide +kernel
theorem d_M_round_77 : decode b_M_round 77 = .ok (.istore_n 3, 1) := by decide +kernel
theorem d_M_round_78 : decode b_M_round 78 = .ok (.iload_n 3, 1) := by decide +kernel
theorem d_M_round_79 : decode b_M_round 79 = .ok (.aload_n 0, 1) := by decide +kernel
theorem d_M_round_80 : decode b_M_round 80 = .ok (.getfield 53, 3) := by decide +kernel
theorem d_M_round_83 : decode b_M_round 83 = .ok (.aload_n 0, 1) := by decide +kernel
theorem d_M_round_84 : decode b_M_round 84 = .ok (.getfield 28, 3) := by decide +kernel
theorem d_M_round_87 : decode b_M_round 87 = .ok (.iload_n 2, 1) := by decide +kernel
theorem d_M_round_88 : decode b_M_round 88 = .ok (.iaload, 1) := by decide +kernel
theorem d_M_round_89 : decode b_M_round 89 = .ok (.iaload, 1) := by decide +kernel
theorem d_M_round_90 : decode b_M_round 90 = .ok (.if_icmp .ge 32, 3) := by decide +kernel
theorem d_M_round_93 : decode b_M_round 93 = .ok (.aload_n 0, 1) := by decide +kernel
theorem d_M_round_94 : decode b_M_round 94 = .ok (.iload_n 2, 1) := by decide +kernel
theorem d_M_round_95 : decode b_M_round 95 = .ok (.iload_n 3, 1) := by decide +kernel
theorem d_M_round_96 : decode b_M_round 96 = .ok (.invokevirtual 117, 3) := by decide +kernel
theorem d_M_round_99 : decode b_M_round 99 = .ok (.istore 4, 2) := by decide +kernel
theorem d_M_round_101 : decode b_M_round 101 = .ok (.iload_n 1, 1) := by decide +kernel
theorem d_M_round_102 : decode b_M_round 102 = .ok (.ifCond .ne 8, 3) := by decide +kernel
theorem d_M_round_105 : decode b_M_round 105 = .ok (.iload 4, 2) := by decide +kernel
theorem d_M_round_107 : decode b_M_round 107 = .ok (.ifCond .eq 7, 3) := by decide +kernel
theorem d_M_round_110 : decode b_M_round 110 = .ok (.iconst 1, 1) := by decide +kernel
theorem d_M_round_111 : decode b_M_round 111 = .ok (.goto 4, 3) := by decide +kernel
theorem d_M_round_114 : decode b_M_round 114 = .ok (.iconst 0, 1) := by decide +kernel
theorem d_M_round_115 : decode b_M_round 115 = .ok (.istore_n 1, 1) := by decide +kernel
theorem d_M_round_116 : decode b_M_round 116 = .ok (.iinc 3 1, 3) := by decide +kernel
theorem d_M_round_119 : decode b_M_round 119 = .ok (.goto (-41), 3) := by decide +kernel
theorem d_M_round_122 : decode b_M_round 122 = .ok (.iinc 2 1, 3) := by decide +kernel
theorem d_M_round_125 : decode b_M_round 125 = .ok (.goto (-57), 3) := by decide +kernel
theorem d_M_round_128 : decode b_M_round 128 = .ok (.iload_n 1, 1) := by decide +kernel
theorem d_M_round_129 : decode b_M_round 129 = .ok (.ireturn, 1) := by decide +kernel
