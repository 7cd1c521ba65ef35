theorem d_M_bits_0 : decode b_M_bits 0 = .ok (.iconst 0, 1) := by decide +kernel
theorem d_M_bits_1 : decode b_M_bits 1 = .ok (.istore_n 1, 1) := by decide +kernel
theorem d_M_bits_2 : decode b_M_bits 2 = .ok (.iconst 0, 1) := by decide +kernel
theorem d_M_bits_3 : decode b_M_bits 3 = .ok (.istore_n 2, 1) := by decide +kernel
theorem d_M_bits_4 : decode b_M_bits 4 = .ok (.iload_n 2, 1) := by decide +kernel
theorem d_M_bits_5 : decode b_M_bits 5 = .ok (.bipush 8, 2) := by decide +kernel
theorem d_M_bits_7 : decode b_M_bits 7 = .ok (.if_icmp .ge 17, 3) := by decide +kernel
theorem d_M_bits_10 : decode b_M_bits 10 = .ok (.iload_n 1, 1) := by decide +kernel
theorem d_M_bits_11 : decode b_M_bits 11 = .ok (.iload_n 0, 1) := by decide +kernel
theorem d_M_bits_12 : decode b_M_bits 12 = .ok (.iload_n 2, 1) := by decide +kernel
theorem d_M_bits_13 : decode b_M_bits 13 = .ok (.ishr, 1) := by decide +kernel
theorem d_M_bits_14 : decode b_M_bits 14 = .ok (.iconst 1, 1) := by decide +kernel
theorem d_M_bits_15 : decode b_M_bits 15 = .ok (.iand, 1) := by decide +kernel
theorem d_M_bits_16 : decode b_M_bits 16 = .ok (.iadd, 1) := by decide +kernel
theorem d_M_bits_17 : decode b_M_bits 17 = .ok (.istore_n 1, 1) := by decide +kernel
theorem d_M_bits_18 : decode b_M_bits 18 = .ok (.iinc 2 1, 3) := by decide +kernel
theorem d_M_bits_21 : decode b_M_bits 21 = .ok (.goto (-17), 3) := by decide +kernel
theorem d_M_bits_24 : decode b_M_bits 24 = .ok (.iload_n 1, 1) := by decide +kernel
theorem d_M_bits_25 : decode b_M_bits 25 = .ok (.ireturn, 1) := by decide +kernel
theorem d_M_follow_0 : decode b_M_follow 0 = .ok (.aload_n 0, 1) := by decide +kernel
theorem d_M_follow_1 : decode b_M_follow 1 = .ok (.getfield 19, 3) := by decide +kernel
theorem d_M_follow_4 : decode b_M_follow 4 = .ok (.iload_n 1, 1) := by decide +kernel
theorem d_M_follow_5 : decode b_M_follow 5 = .ok (.iaload, 1) := by decide +kernel
theorem d_M_follow_6 : decode b_M_follow 6 = .ok (.istore_n 3, 1) := by decide +kernel
theorem d_M_follow_7 : decode b_M_follow 7 = .ok (.bipush 16, 2) := by decide +kernel
theorem d_M_follow_9 : decode b_M_follow 9 = .ok (.iload_n 2, 1) := by decide +kernel
theorem d_M_follow_10 : decode b_M_follow 10 = .ok (.imul, 1) := by decide +kernel
theorem d_M_follow_11 : decode b_M_follow 11 = .ok (.istore 4, 2) := by decide +kernel
theorem d_M_follow_13 : decode b_M_follow 13 = .ok (.aload_n 0, 1) := by decide +kernel
theorem d_M_follow_14 : decode b_M_follow 14 = .ok (.getfield 16, 3) := by decide +kernel
theorem d_M_follow_17 : decode b_M_follow 17 = .ok (.iload_n 1, 1) := by decide +kernel
theorem d_M_follow_18 : decode b_M_follow 18 = .ok (.iaload, 1) := by decide +kernel
theorem d_M_follow_19 : decode b_M_follow 19 = .ok (.tableswitch 95 0 2 #[25, 40, 61], 25) := by decide +kernel
theorem d_M_follow_44 : decode b_M_follow 44 = .ok (.aload_n 0, 1) := by decide +kernel
theorem d_M_follow_45 : decode b_M_follow 45 = .ok (.iload_n 2, 1) := by decide +kernel
theorem d_M_follow_46 : decode b_M_follow 46 = .ok (.iload_n 3, 1) := by decide +kernel
theorem d_M_follow_47 : decode b_M_follow 47 = .ok (.iconst 1, 1) := by decide +kernel
theorem d_M_follow_48 : decode b_M_follow 48 = .ok (.aload_n 0, 1) := by decide +kernel
theorem d_M_follow_49 : decode b_M_follow 49 = .ok (.getfield 22, 3) := by decide +kernel
theorem d_M_follow_52 : decode b_M_follow 52 = .ok (.iload_n 1, 1) := by decide +kernel
theorem d_M_follow_53 : decode b_M_follow 53 = .ok (.iaload, 1) := by decide +kernel
theorem d_M_follow_54 : decode b_M_follow 54 = .ok (.ishl, 1) := by decide +kernel
theorem d_M_follow_55 : decode b_M_follow 55 = .ok (.invokevirtual 104, 3) := by decide +kernel
theorem d_M_follow_58 : decode b_M_follow 58 = .ok (.ireturn, 1) := by decide +kernel
theorem d_M_follow_59 : decode b_M_follow 59 = .ok (.aload_n 0, 1) := by decide +kernel
theorem d_M_follow_60 : decode b_M_follow 60 = .ok (.iload_n 2, 1) := by decide +kernel
theorem d_M_follow_61 : decode b_M_follow 61 = .ok (.iload_n 3, 1) := by decide +kernel
theorem d_M_follow_62 : decode b_M_follow 62 = .ok (.aload_n 0, 1) := by decide +kernel
theorem d_M_follow_63 : decode b_M_follow 63 = .ok (.getfield 62, 3) := by decide +kernel
theorem d_M_follow_66 : decode b_M_follow 66 = .ok (.iload 4, 2) := by decide +kernel
theorem d_M_follow_68 : decode b_M_follow 68 = .ok (.aload_n 0, 1) := by decide +kernel
theorem d_M_follow_69 : decode b_M_follow 69 = .ok (.getfield 22, 3) := by decide +kernel
theorem d_M_follow_72 : decode b_M_follow 72 = .ok (.iload_n 1, 1) := by decide +kernel
theorem d_M_follow_73 : decode b_M_follow 73 = .ok (.iaload, 1) := by decide +kernel
theorem d_M_follow_74 : decode b_M_follow 74 = .ok (.iadd, 1) := by decide +kernel
theorem d_M_follow_75 : decode b_M_follow 75 = .ok (.iaload, 1) := by decide +kernel
theorem d_M_follow_76 : decode b_M_follow 76 = .ok (.invokevirtual 104, 3) := by decide +kernel
theorem d_M_follow_79 : decode b_M_follow 79 = .ok (.ireturn, 1) := by decide +kernel
theorem d_M_follow_80 : decode b_M_follow 80 = .ok (.aload_n 0, 1) := by decide +kernel
theorem d_M_follow_81 : decode b_M_follow 81 = .ok (.aload_n 0, 1) := by decide +kernel
theorem d_M_follow_82 : decode b_M_follow 82 = .ok (.getfield 62, 3) := by decide +kernel
theorem d_M_follow_85 : decode b_M_follow 85 = .ok (.iload 4, 2) := by decide +kernel
theorem d_M_follow_87 : decode b_M_follow 87 = .ok (.iload_n 3, 1) := by decide +kernel
theorem d_M_follow_88 : decode b_M_follow 88 = .ok (.iadd, 1) := by decide +kernel
theorem d_M_follow_89 : decode b_M_follow 89 = .ok (.iaload, 1) := by decide +kernel
theorem d_M_follow_90 : decode b_M_follow 90 = .ok (.aload_n 0, 1) := by decide +kernel
theorem d_M_follow_91 : decode b_M_follow 91 = .ok (.getfield 25, 3) := by decide +kernel
theorem d_M_follow_94 : decode b_M_follow 94 = .ok (.iload_n 1, 1) := by decide +kernel
theorem d_M_follow_95 : decode b_M_follow 95 = .ok (.iaload, 1) := by decide +kernel
theorem d_M_follow_96 : decode b_M_follow 96 = .ok (.aload_n 0, 1) := by decide +kernel
theorem d_M_follow_97 : decode b_M_follow 97 = .ok (.getfield 62, 3) := by decide +kernel
theorem d_M_follow_100 : decode b_M_follow 100 = .ok (.iload 4, 2) := by decide +kernel
theorem d_M_follow_102 : decode b_M_follow 102 = .ok (.aload_n 0, 1) := by decide +kernel
theorem d_M_follow_103 : decode b_M_follow 103 = .ok (.getfield 22, 3) := by decide +kernel
theorem d_M_follow_106 : decode b_M_follow 106 = .ok (.iload_n 1, 1) := by decide +kernel
theorem d_M_follow_107 : decode b_M_follow 107 = .ok (.iaload, 1) := by decide +kernel
theorem d_M_follow_108 : decode b_M_follow 108 = .ok (.iadd, 1) := by decide +kernel
theorem d_M_follow_109 : decode b_M_follow 109 = .ok (.iaload, 1) := by decide +kernel
theorem d_M_follow_110 : decode b_M_follow 110 = .ok (.invokevirtual 108, 3) := by decide +kernel
theorem d_M_follow_113 : decode b_M_follow 113 = .ok (.ireturn, 1) := by decide +kernel
theorem d_M_follow_114 : decode b_M_follow 114 = .ok (.aload_n 0, 1) := by decide +kernel
theorem d_M_follow_115 : decode b_M_follow 115 = .ok (.aload_n 0, 1) := by decide +kernel
theorem d_M_follow_116 : decode b_M_follow 116 = .ok (.getfield 62, 3) := by decide +kernel
theorem d_M_follow_119 : decode b_M_follow 119 = .ok (.iload 4, 2) := by decide +kernel
theorem d_M_follow_121 : decode b_M_follow 121 = .ok (.aload_n 0, 1) := by decide +kernel
theorem d_M_follow_122 : decode b_M_follow 122 = .ok (.getfield 22, 3) := by decide +kernel
theorem d_M_follow_125 : decode b_M_follow 125 = .ok (.iload_n 1, 1) := by decide +kernel
theorem d_M_follow_126 : decode b_M_follow 126 = .ok (.iaload, 1) := by decide +kernel
theorem d_M_follow_127 : decode b_M_follow 127 = .ok (.iadd, 1) := by decide +kernel
theorem d_M_follow_128 : decode b_M_follow 128 = .ok (.iaload, 1) := by decide +kernel
theorem d_M_follow_129 : decode b_M_follow 129 = .ok (.aload_n 0, 1) := by decide +kernel
theorem d_M_follow_130 : decode b_M_follow 130 = .ok (.getfield 25, 3) := by decide +kernel
theorem d_M_follow_133 : decode b_M_follow 133 = .ok (.iload_n 1, 1) := by decide +kernel
theorem d_M_follow_134 : decode b_M_follow 134 = .ok (.iaload, 1) := by decide +kernel
theorem d_M_follow_135 : decode b_M_follow 135 = .ok (.invokevirtual 111, 3) := by decide +kernel
theorem d_M_follow_138 : decode b_M_follow 138 = .ok (.istore 5, 2) := by decide +kernel
theorem d_M_follow_140 : decode b_M_follow 140 = .ok (.aload_n 0, 1) := by decide +kernel
theorem d_M_follow_141 : decode b_M_follow 141 = .ok (.iload_n 2, 1) := by decide +kernel
theorem d_M_follow_142 : decode b_M_follow 142 = .ok (.iload_n 3, 1) := by decide +kernel
theorem d_M_follow_143 : decode b_M_follow 143 = .ok (.iload 5, 2) := by decide +kernel
theorem d_M_follow_145 : decode b_M_follow 145 = .ok (.invokevirtual 104, 3) := by decide +kernel
theorem d_M_follow_148 : decode b_M_follow 148 = .ok (.ireturn, 1) := by decide +kernel
theorem d_M_held_0 : decode b_M_held 0 = .ok (.iconst 0, 1) := by decide +kernel
theorem d_M_held_1 : decode b_M_held 1 = .ok (.istore_n 3, 1) := by decide +kernel
theorem d_M_held_2 : decode b_M_held 2 = .ok (.iconst 0, 1) := by decide +kernel
theorem d_M_held_3 : decode b_M_held 3 = .ok (.istore 4, 2) := by decide +kernel
theorem d_M_held_5 : decode b_M_held 5 = .ok (.iload 4, 2) := by decide +kernel
theorem d_M_held_7 : decode b_M_held 7 = .ok (.bipush 8, 2) := by decide +kernel
theorem d_M_held_9 : decode b_M_held 9 = .ok (.if_icmp .ge 37, 3) := by decide +kernel
theorem d_M_held_12 : decode b_M_held 12 = .ok (.iload_n 3, 1) := by decide +kernel
theorem d_M_held_13 : decode b_M_held 13 = .ok (.iload_n 1, 1) := by decide +kernel
theorem d_M_held_14 : decode b_M_held 14 = .ok (.iload 4, 2) := by decide +kernel
theorem d_M_held_16 : decode b_M_held 16 = .ok (.ishr, 1) := by decide +kernel
theorem d_M_held_17 : decode b_M_held 17 = .ok (.iconst 1, 1) := by decide +kernel
theorem d_M_held_18 : decode b_M_held 18 = .ok (.iand, 1) := by decide +kernel
theorem d_M_held_19 : decode b_M_held 19 = .ok (.iconst 1, 1) := by decide +kernel
theorem d_M_held_20 : decode b_M_held 20 = .ok (.if_icmp .ne 17, 3) := by decide +kernel
theorem d_M_held_23 : decode b_M_held 23 = .ok (.aload_n 0, 1) := by decide +kernel
theorem d_M_held_24 : decode b_M_held 24 = .ok (.getfield 65, 3) := by decide +kernel
theorem d_M_held_27 : decode b_M_held 27 = .ok (.iconst 2, 1) := by decide +kernel
theorem d_M_held_28 : decode b_M_held 28 = .ok (.iload 4, 2) := by decide +kernel
theorem d_M_held_30 : decode b_M_held 30 = .ok (.imul, 1) := by decide +kernel
theorem d_M_held_31 : decode b_M_held 31 = .ok (.iload_n 2, 1) := by decide +kernel
theorem d_M_held_32 : decode b_M_held 32 = .ok (.iadd, 1) := by decide +kernel
theorem d_M_held_33 : decode b_M_held 33 = .ok (.iaload, 1) := by decide +kernel
theorem d_M_held_34 : decode b_M_held 34 = .ok (.goto 4, 3) := by decide +kernel
theorem d_M_held_37 : decode b_M_held 37 = .ok (.iconst 0, 1) := by decide +kernel
theorem d_M_held_38 : decode b_M_held 38 = .ok (.ior, 1) := by decide +kernel
theorem d_M_held_39 : decode b_M_held 39 = .ok (.istore_n 3, 1) := by decide +kernel
theorem d_M_held_40 : decode b_M_held 40 = .ok (.iinc 4 1, 3) := by decide +kernel
theorem d_M_held_43 : decode b_M_held 43 = .ok (.goto (-38), 3) := by decide +kernel
theorem d_M_held_46 : decode b_M_held 46 = .ok (.iload_n 3, 1) := by decide +kernel
theorem d_M_held_47 : decode b_M_held 47 = .ok (.ireturn, 1) := by decide +kernel
theorem d_M_holdMore_0 : decode b_M_holdMore 0 = .ok (.iconst 0, 1) := by decide +kernel
theorem d_M_holdMore_1 : decode b_M_holdMore 1 = .ok (.istore 4, 2) := by decide +kernel
theorem d_M_holdMore_3 : decode b_M_holdMore 3 = .ok (.iconst 0, 1) := by decide +kernel
theorem d_M_holdMore_4 : decode b_M_holdMore 4 = .ok (.istore 5, 2) := by decide +kernel
theorem d_M_holdMore_6 : decode b_M_holdMore 6 = .ok (.iload 5, 2) := by decide +kernel
theorem d_M_holdMore_8 : decode b_M_holdMore 8 = .ok (.bipush 8, 2) := by decide +kernel
theorem d_M_holdMore_10 : decode b_M_holdMore 10 = .ok (.if_icmp .ge 89, 3) := by decide +kernel
theorem d_M_holdMore_13 : decode b_M_holdMore 13 = .ok (.iload_n 1, 1) := by decide +kernel
theorem d_M_holdMore_14 : decode b_M_holdMore 14 = .ok (.iload 5, 2) := by decide +kernel
theorem d_M_holdMore_16 : decode b_M_holdMore 16 = .ok (.ishr, 1) := by decide +kernel
theorem d_M_holdMore_17 : decode b_M_holdMore 17 = .ok (.iconst 1, 1) := by decide +kernel
theorem d_M_holdMore_18 : decode b_M_holdMore 18 = .ok (.iand, 1) := by decide +kernel
theorem d_M_holdMore_19 : decode b_M_holdMore 19 = .ok (.iconst 1, 1) := by decide +kernel
theorem d_M_holdMore_20 : decode b_M_holdMore 20 = .ok (.if_icmp .ne 19, 3) := by decide +kernel
theorem d_M_holdMore_23 : decode b_M_holdMore 23 = .ok (.aload_n 0, 1) := by decide +kernel
theorem d_M_holdMore_24 : decode b_M_holdMore 24 = .ok (.getfield 65, 3) := by decide +kernel
theorem d_M_holdMore_27 : decode b_M_holdMore 27 = .ok (.iconst 2, 1) := by decide +kernel
theorem d_M_holdMore_28 : decode b_M_holdMore 28 = .ok (.iload 5, 2) := by decide +kernel
theorem d_M_holdMore_30 : decode b_M_holdMore 30 = .ok (.imul, 1) := by decide +kernel
theorem d_M_holdMore_31 : decode b_M_holdMore 31 = .ok (.iload_n 2, 1) := by decide +kernel
theorem d_M_holdMore_32 : decode b_M_holdMore 32 = .ok (.iadd, 1) := by decide +kernel
theorem d_M_holdMore_33 : decode b_M_holdMore 33 = .ok (.iaload, 1) := by decide +kernel
theorem d_M_holdMore_34 : decode b_M_holdMore 34 = .ok (.iload_n 3, 1) := by decide +kernel
theorem d_M_holdMore_35 : decode b_M_holdMore 35 = .ok (.ior, 1) := by decide +kernel
theorem d_M_holdMore_36 : decode b_M_holdMore 36 = .ok (.goto 14, 3) := by decide +kernel
theorem d_M_holdMore_39 : decode b_M_holdMore 39 = .ok (.aload_n 0, 1) := by decide +kernel
theorem d_M_holdMore_40 : decode b_M_holdMore 40 = .ok (.getfield 65, 3) := by decide +kernel
theorem d_M_holdMore_43 : decode b_M_holdMore 43 = .ok (.iconst 2, 1) := by decide +kernel
theorem d_M_holdMore_44 : decode b_M_holdMore 44 = .ok (.iload 5, 2) := by decide +kernel
theorem d_M_holdMore_46 : decode b_M_holdMore 46 = .ok (.imul, 1) := by decide +kernel
theorem d_M_holdMore_47 : decode b_M_holdMore 47 = .ok (.iload_n 2, 1) := by decide +kernel
theorem d_M_holdMore_48 : decode b_M_holdMore 48 = .ok (.iadd, 1) := by decide +kernel
theorem d_M_holdMore_49 : decode b_M_holdMore 49 = .ok (.iaload, 1) := by decide +kernel
theorem d_M_holdMore_50 : decode b_M_holdMore 50 = .ok (.istore 6, 2) := by decide +kernel
theorem d_M_holdMore_52 : decode b_M_holdMore 52 = .ok (.iload 4, 2) := by decide +kernel
theorem d_M_holdMore_54 : decode b_M_holdMore 54 = .ok (.ifCond .ne 19, 3) := by decide +kernel
theorem d_M_holdMore_57 : decode b_M_holdMore 57 = .ok (.iload 6, 2) := by decide +kernel
theorem d_M_holdMore_59 : decode b_M_holdMore 59 = .ok (.aload_n 0, 1) := by decide +kernel
theorem d_M_holdMore_60 : decode b_M_holdMore 60 = .ok (.getfield 65, 3) := by decide +kernel
theorem d_M_holdMore_63 : decode b_M_holdMore 63 = .ok (.iconst 2, 1) := by decide +kernel
theorem d_M_holdMore_64 : decode b_M_holdMore 64 = .ok (.iload 5, 2) := by decide +kernel
theorem d_M_holdMore_66 : decode b_M_holdMore 66 = .ok (.imul, 1) := by decide +kernel
theorem d_M_holdMore_67 : decode b_M_holdMore 67 = .ok (.iload_n 2, 1) := by decide +kernel
theorem d_M_holdMore_68 : decode b_M_holdMore 68 = .ok (.iadd, 1) := by decide +kernel
theorem d_M_holdMore_69 : decode b_M_holdMore 69 = .ok (.iaload, 1) := by decide +kernel
theorem d_M_holdMore_70 : decode b_M_holdMore 70 = .ok (.if_icmp .eq 7, 3) := by decide +kernel
theorem d_M_holdMore_73 : decode b_M_holdMore 73 = .ok (.iconst 1, 1) := by decide +kernel
theorem d_M_holdMore_74 : decode b_M_holdMore 74 = .ok (.goto 4, 3) := by decide +kernel
theorem d_M_holdMore_77 : decode b_M_holdMore 77 = .ok (.iconst 0, 1) := by decide +kernel
theorem d_M_holdMore_78 : decode b_M_holdMore 78 = .ok (.istore 4, 2) := by decide +kernel
theorem d_M_holdMore_80 : decode b_M_holdMore 80 = .ok (.aload_n 0, 1) := by decide +kernel
theorem d_M_holdMore_81 : decode b_M_holdMore 81 = .ok (.getfield 65, 3) := by decide +kernel
theorem d_M_holdMore_84 : decode b_M_holdMore 84 = .ok (.iconst 2, 1) := by decide +kernel
theorem d_M_holdMore_85 : decode b_M_holdMore 85 = .ok (.iload 5, 2) := by decide +kernel
theorem d_M_holdMore_87 : decode b_M_holdMore 87 = .ok (.imul, 1) := by decide +kernel
theorem d_M_holdMore_88 : decode b_M_holdMore 88 = .ok (.iload_n 2, 1) := by decide +kernel
theorem d_M_holdMore_89 : decode b_M_holdMore 89 = .ok (.iadd, 1) := by decide +kernel
theorem d_M_holdMore_90 : decode b_M_holdMore 90 = .ok (.iload 6, 2) := by decide +kernel
theorem d_M_holdMore_92 : decode b_M_holdMore 92 = .ok (.iastore, 1) := by decide +kernel
theorem d_M_holdMore_93 : decode b_M_holdMore 93 = .ok (.iinc 5 1, 3) := by decide +kernel
theorem d_M_holdMore_96 : decode b_M_holdMore 96 = .ok (.goto (-90), 3) := by decide +kernel
theorem d_M_holdMore_99 : decode b_M_holdMore 99 = .ok (.iload 4, 2) := by decide +kernel
theorem d_M_holdMore_101 : decode b_M_holdMore 101 = .ok (.ireturn, 1) := by decide +kernel
theorem d_M_more_0 : decode b_M_more 0 = .ok (.aload_n 0, 1) := by decide +kernel
theorem d_M_more_1 : decode b_M_more 1 = .ok (.getfield 62, 3) := by decide +kernel
theorem d_M_more_4 : decode b_M_more 4 = .ok (.bipush 16, 2) := by decide +kernel
theorem d_M_more_6 : decode b_M_more 6 = .ok (.iload_n 1, 1) := by decide +kernel
theorem d_M_more_7 : decode b_M_more 7 = .ok (.imul, 1) := by decide +kernel
theorem d_M_more_8 : decode b_M_more 8 = .ok (.iload_n 2, 1) := by decide +kernel
theorem d_M_more_9 : decode b_M_more 9 = .ok (.iadd, 1) := by decide +kernel
theorem d_M_more_10 : decode b_M_more 10 = .ok (.iaload, 1) := by decide +kernel
theorem d_M_more_11 : decode b_M_more 11 = .ok (.istore 4, 2) := by decide +kernel
theorem d_M_more_13 : decode b_M_more 13 = .ok (.aload_n 0, 1) := by decide +kernel
theorem d_M_more_14 : decode b_M_more 14 = .ok (.getfield 62, 3) := by decide +kernel
theorem d_M_more_17 : decode b_M_more 17 = .ok (.bipush 16, 2) := by decide +kernel
theorem d_M_more_19 : decode b_M_more 19 = .ok (.iload_n 1, 1) := by decide +kernel
theorem d_M_more_20 : decode b_M_more 20 = .ok (.imul, 1) := by decide +kernel
theorem d_M_more_21 : decode b_M_more 21 = .ok (.iload_n 2, 1) := by decide +kernel
theorem d_M_more_22 : decode b_M_more 22 = .ok (.iadd, 1) := by decide +kernel
theorem d_M_more_23 : decode b_M_more 23 = .ok (.iload 4, 2) := by decide +kernel
theorem d_M_more_25 : decode b_M_more 25 = .ok (.iload_n 3, 1) := by decide +kernel
theorem d_M_more_26 : decode b_M_more 26 = .ok (.aload_n 0, 1) := by decide +kernel
theorem d_M_more_27 : decode b_M_more 27 = .ok (.iload_n 2, 1) := by decide +kernel
theorem d_M_more_28 : decode b_M_more 28 = .ok (.invokevirtual 100, 3) := by decide +kernel
theorem d_M_more_31 : decode b_M_more 31 = .ok (.iand, 1) := by decide +kernel
theorem d_M_more_32 : decode b_M_more 32 = .ok (.ior, 1) := by decide +kernel
theorem d_M_more_33 : decode b_M_more 33 = .ok (.iastore, 1) := by decide +kernel
theorem d_M_more_34 : decode b_M_more 34 = .ok (.aload_n 0, 1) := by decide +kernel
theorem d_M_more_35 : decode b_M_more 35 = .ok (.getfield 62, 3) := by decide +kernel
theorem d_M_more_38 : decode b_M_more 38 = .ok (.bipush 16, 2) := by decide +kernel
theorem d_M_more_40 : decode b_M_more 40 = .ok (.iload_n 1, 1) := by decide +kernel
theorem d_M_more_41 : decode b_M_more 41 = .ok (.imul, 1) := by decide +kernel
theorem d_M_more_42 : decode b_M_more 42 = .ok (.iload_n 2, 1) := by decide +kernel
theorem d_M_more_43 : decode b_M_more 43 = .ok (.iadd, 1) := by decide +kernel
theorem d_M_more_44 : decode b_M_more 44 = .ok (.iaload, 1) := by decide +kernel
theorem d_M_more_45 : decode b_M_more 45 = .ok (.iload 4, 2) := by decide +kernel
theorem d_M_more_47 : decode b_M_more 47 = .ok (.if_icmp .eq 7, 3) := by decide +kernel
theorem d_M_more_50 : decode b_M_more 50 = .ok (.iconst 1, 1) := by decide +kernel
theorem d_M_more_51 : decode b_M_more 51 = .ok (.goto 4, 3) := by decide +kernel
theorem d_M_more_54 : decode b_M_more 54 = .ok (.iconst 0, 1) := by decide +kernel
theorem d_M_more_55 : decode b_M_more 55 = .ok (.ireturn, 1) := by decide +kernel
