theorem d_M_count_0 : decode b_M_count 0 = .ok (.iconst 1, 1) := by decide +kernel
theorem d_M_count_1 : decode b_M_count 1 = .ok (.istore_n 1, 1) := by decide +kernel
theorem d_M_count_2 : decode b_M_count 2 = .ok (.iconst 0, 1) := by decide +kernel
theorem d_M_count_3 : decode b_M_count 3 = .ok (.istore_n 2, 1) := by decide +kernel
theorem d_M_count_4 : decode b_M_count 4 = .ok (.iload_n 2, 1) := by decide +kernel
theorem d_M_count_5 : decode b_M_count 5 = .ok (.iconst 4, 1) := by decide +kernel
theorem d_M_count_6 : decode b_M_count 6 = .ok (.if_icmp .ge 16, 3) := by decide +kernel
theorem d_M_count_9 : decode b_M_count 9 = .ok (.aload_n 0, 1) := by decide +kernel
theorem d_M_count_10 : decode b_M_count 10 = .ok (.getfield 50, 3) := by decide +kernel
theorem d_M_count_13 : decode b_M_count 13 = .ok (.iload_n 2, 1) := by decide +kernel
theorem d_M_count_14 : decode b_M_count 14 = .ok (.iconst 1, 1) := by decide +kernel
theorem d_M_count_15 : decode b_M_count 15 = .ok (.iastore, 1) := by decide +kernel
theorem d_M_count_16 : decode b_M_count 16 = .ok (.iinc 2 1, 3) := by decide +kernel
theorem d_M_count_19 : decode b_M_count 19 = .ok (.goto (-15), 3) := by decide +kernel
theorem d_M_count_22 : decode b_M_count 22 = .ok (.iconst 0, 1) := by decide +kernel
theorem d_M_count_23 : decode b_M_count 23 = .ok (.istore_n 2, 1) := by decide +kernel
theorem d_M_count_24 : decode b_M_count 24 = .ok (.iload_n 2, 1) := by decide +kernel
theorem d_M_count_25 : decode b_M_count 25 = .ok (.iconst 5, 1) := by decide +kernel
theorem d_M_count_26 : decode b_M_count 26 = .ok (.if_icmp .ge 62, 3) := by decide +kernel
theorem d_M_count_29 : decode b_M_count 29 = .ok (.iconst 0, 1) := by decide +kernel
theorem d_M_count_30 : decode b_M_count 30 = .ok (.istore_n 3, 1) := by decide +kernel
theorem d_M_count_31 : decode b_M_count 31 = .ok (.iload_n 3, 1) := by decide +kernel
theorem d_M_count_32 : decode b_M_count 32 = .ok (.iconst 4, 1) := by decide +kernel
theorem d_M_count_33 : decode b_M_count 33 = .ok (.if_icmp .ge 49, 3) := by decide +kernel
theorem d_M_count_36 : decode b_M_count 36 = .ok (.aload_n 0, 1) := by decide +kernel
theorem d_M_count_37 : decode b_M_count 37 = .ok (.iload_n 3, 1) := by decide +kernel
theorem d_M_count_38 : decode b_M_count 38 = .ok (.aload_n 0, 1) := by decide +kernel
theorem d_M_count_39 : decode b_M_count 39 = .ok (.getfield 86, 3) := by decide +kernel
theorem d_M_count_42 : decode b_M_count 42 = .ok (.invokevirtual 96, 3) := by decide +kernel
theorem d_M_count_45 : decode b_M_count 45 = .ok (.istore 4, 2) := by decide +kernel
theorem d_M_count_47 : decode b_M_count 47 = .ok (.aload_n 0, 1) := by decide +kernel
theorem d_M_count_48 : decode b_M_count 48 = .ok (.getfield 50, 3) := by decide +kernel
theorem d_M_count_51 : decode b_M_count 51 = .ok (.iload_n 3, 1) := by decide +kernel
theorem d_M_count_52 : decode b_M_count 52 = .ok (.iload 4, 2) := by decide +kernel
theorem d_M_count_54 : decode b_M_count 54 = .ok (.ifCond .ne 7, 3) := by decide +kernel
theorem d_M_count_57 : decode b_M_count 57 = .ok (.iconst 1, 1) := by decide +kernel
theorem d_M_count_58 : decode b_M_count 58 = .ok (.goto 17, 3) := by decide +kernel
theorem d_M_count_61 : decode b_M_count 61 = .ok (.iload 4, 2) := by decide +kernel
theorem d_M_count_63 : decode b_M_count 63 = .ok (.bipush 9, 2) := by decide +kernel
theorem d_M_count_65 : decode b_M_count 65 = .ok (.if_icmp .le 8, 3) := by decide +kernel
theorem d_M_count_68 : decode b_M_count 68 = .ok (.bipush 9, 2) := by decide +kernel
theorem d_M_count_70 : decode b_M_count 70 = .ok (.goto 5, 3) := by decide +kernel
theorem d_M_count_73 : decode b_M_count 73 = .ok (.iload 4, 2) := by decide +kernel
theorem d_M_count_75 : decode b_M_count 75 = .ok (.iastore, 1) := by decide +kernel
theorem d_M_count_76 : decode b_M_count 76 = .ok (.iinc 3 1, 3) := by decide +kernel
theorem d_M_count_79 : decode b_M_count 79 = .ok (.goto (-48), 3) := by decide +kernel
theorem d_M_count_82 : decode b_M_count 82 = .ok (.iinc 2 1, 3) := by decide +kernel
theorem d_M_count_85 : decode b_M_count 85 = .ok (.goto (-61), 3) := by decide +kernel
theorem d_M_count_88 : decode b_M_count 88 = .ok (.iconst 0, 1) := by decide +kernel
theorem d_M_count_89 : decode b_M_count 89 = .ok (.istore_n 2, 1) := by decide +kernel
theorem d_M_count_90 : decode b_M_count 90 = .ok (.iload_n 2, 1) := by decide +kernel
theorem d_M_count_91 : decode b_M_count 91 = .ok (.iconst 4, 1) := by decide +kernel
theorem d_M_count_92 : decode b_M_count 92 = .ok (.if_icmp .ge 30, 3) := by decide +kernel
theorem d_M_count_95 : decode b_M_count 95 = .ok (.iload_n 1, 1) := by decide +kernel
theorem d_M_count_96 : decode b_M_count 96 = .ok (.ifCond .eq 18, 3) := by decide +kernel
theorem d_M_count_99 : decode b_M_count 99 = .ok (.aload_n 0, 1) := by decide +kernel
theorem d_M_count_100 : decode b_M_count 100 = .ok (.getfield 50, 3) := by decide +kernel
theorem d_M_count_103 : decode b_M_count 103 = .ok (.iload_n 2, 1) := by decide +kernel
theorem d_M_count_104 : decode b_M_count 104 = .ok (.iaload, 1) := by decide +kernel
theorem d_M_count_105 : decode b_M_count 105 = .ok (.bipush 8, 2) := by decide +kernel
theorem d_M_count_107 : decode b_M_count 107 = .ok (.if_icmp .gt 7, 3) := by decide +kernel
theorem d_M_count_110 : decode b_M_count 110 = .ok (.iconst 1, 1) := by decide +kernel
theorem d_M_count_111 : decode b_M_count 111 = .ok (.goto 4, 3) := by decide +kernel
theorem d_M_count_114 : decode b_M_count 114 = .ok (.iconst 0, 1) := by decide +kernel
theorem d_M_count_115 : decode b_M_count 115 = .ok (.istore_n 1, 1) := by decide +kernel
theorem d_M_count_116 : decode b_M_count 116 = .ok (.iinc 2 1, 3) := by decide +kernel
theorem d_M_count_119 : decode b_M_count 119 = .ok (.goto (-29), 3) := by decide +kernel
theorem d_M_count_122 : decode b_M_count 122 = .ok (.iload_n 1, 1) := by decide +kernel
theorem d_M_count_123 : decode b_M_count 123 = .ok (.ireturn, 1) := by decide +kernel
theorem d_M_fitting_0 : decode b_M_fitting 0 = .ok (.iconst 0, 1) := by decide +kernel
theorem d_M_fitting_1 : decode b_M_fitting 1 = .ok (.istore_n 2, 1) := by decide +kernel
theorem d_M_fitting_2 : decode b_M_fitting 2 = .ok (.iconst 0, 1) := by decide +kernel
theorem d_M_fitting_3 : decode b_M_fitting 3 = .ok (.istore_n 3, 1) := by decide +kernel
theorem d_M_fitting_4 : decode b_M_fitting 4 = .ok (.iload_n 3, 1) := by decide +kernel
theorem d_M_fitting_5 : decode b_M_fitting 5 = .ok (.bipush 8, 2) := by decide +kernel
theorem d_M_fitting_7 : decode b_M_fitting 7 = .ok (.if_icmp .ge 29, 3) := by decide +kernel
theorem d_M_fitting_10 : decode b_M_fitting 10 = .ok (.iload_n 2, 1) := by decide +kernel
theorem d_M_fitting_11 : decode b_M_fitting 11 = .ok (.aload_n 0, 1) := by decide +kernel
theorem d_M_fitting_12 : decode b_M_fitting 12 = .ok (.getfield 13, 3) := by decide +kernel
theorem d_M_fitting_15 : decode b_M_fitting 15 = .ok (.iload_n 1, 1) := by decide +kernel
theorem d_M_fitting_16 : decode b_M_fitting 16 = .ok (.iaload, 1) := by decide +kernel
theorem d_M_fitting_17 : decode b_M_fitting 17 = .ok (.aload_n 0, 1) := by decide +kernel
theorem d_M_fitting_18 : decode b_M_fitting 18 = .ok (.getfield 7, 3) := by decide +kernel
theorem d_M_fitting_21 : decode b_M_fitting 21 = .ok (.iload_n 3, 1) := by decide +kernel
theorem d_M_fitting_22 : decode b_M_fitting 22 = .ok (.iaload, 1) := by decide +kernel
theorem d_M_fitting_23 : decode b_M_fitting 23 = .ok (.ishr, 1) := by decide +kernel
theorem d_M_fitting_24 : decode b_M_fitting 24 = .ok (.iconst 1, 1) := by decide +kernel
theorem d_M_fitting_25 : decode b_M_fitting 25 = .ok (.iand, 1) := by decide +kernel
theorem d_M_fitting_26 : decode b_M_fitting 26 = .ok (.iload_n 3, 1) := by decide +kernel
theorem d_M_fitting_27 : decode b_M_fitting 27 = .ok (.ishl, 1) := by decide +kernel
theorem d_M_fitting_28 : decode b_M_fitting 28 = .ok (.ior, 1) := by decide +kernel
theorem d_M_fitting_29 : decode b_M_fitting 29 = .ok (.istore_n 2, 1) := by decide +kernel
theorem d_M_fitting_30 : decode b_M_fitting 30 = .ok (.iinc 3 1, 3) := by decide +kernel
theorem d_M_fitting_33 : decode b_M_fitting 33 = .ok (.goto (-29), 3) := by decide +kernel
theorem d_M_fitting_36 : decode b_M_fitting 36 = .ok (.iload_n 2, 1) := by decide +kernel
theorem d_M_fitting_37 : decode b_M_fitting 37 = .ok (.ireturn, 1) := by decide +kernel
theorem d_M_reaches_0 : decode b_M_reaches 0 = .ok (.iconst 0, 1) := by decide +kernel
theorem d_M_reaches_1 : decode b_M_reaches 1 = .ok (.istore_n 1, 1) := by decide +kernel
theorem d_M_reaches_2 : decode b_M_reaches 2 = .ok (.iload_n 1, 1) := by decide +kernel
theorem d_M_reaches_3 : decode b_M_reaches 3 = .ok (.bipush 16, 2) := by decide +kernel
theorem d_M_reaches_5 : decode b_M_reaches 5 = .ok (.if_icmp .ge 26, 3) := by decide +kernel
theorem d_M_reaches_8 : decode b_M_reaches 8 = .ok (.aload_n 0, 1) := by decide +kernel
theorem d_M_reaches_9 : decode b_M_reaches 9 = .ok (.getfield 47, 3) := by decide +kernel
theorem d_M_reaches_12 : decode b_M_reaches 12 = .ok (.iload_n 1, 1) := by decide +kernel
theorem d_M_reaches_13 : decode b_M_reaches 13 = .ok (.iload_n 1, 1) := by decide +kernel
theorem d_M_reaches_14 : decode b_M_reaches 14 = .ok (.iconst 5, 1) := by decide +kernel
theorem d_M_reaches_15 : decode b_M_reaches 15 = .ok (.irem, 1) := by decide +kernel
theorem d_M_reaches_16 : decode b_M_reaches 16 = .ok (.ifCond .ne 7, 3) := by decide +kernel
theorem d_M_reaches_19 : decode b_M_reaches 19 = .ok (.iconst 1, 1) := by decide +kernel
theorem d_M_reaches_20 : decode b_M_reaches 20 = .ok (.goto 4, 3) := by decide +kernel
theorem d_M_reaches_23 : decode b_M_reaches 23 = .ok (.iconst 0, 1) := by decide +kernel
theorem d_M_reaches_24 : decode b_M_reaches 24 = .ok (.bastore, 1) := by decide +kernel
theorem d_M_reaches_25 : decode b_M_reaches 25 = .ok (.iinc 1 1, 3) := by decide +kernel
theorem d_M_reaches_28 : decode b_M_reaches 28 = .ok (.goto (-26), 3) := by decide +kernel
theorem d_M_reaches_31 : decode b_M_reaches 31 = .ok (.iconst 0, 1) := by decide +kernel
theorem d_M_reaches_32 : decode b_M_reaches 32 = .ok (.istore_n 1, 1) := by decide +kernel
theorem d_M_reaches_33 : decode b_M_reaches 33 = .ok (.iload_n 1, 1) := by decide +kernel
theorem d_M_reaches_34 : decode b_M_reaches 34 = .ok (.aload_n 0, 1) := by decide +kernel
theorem d_M_reaches_35 : decode b_M_reaches 35 = .ok (.getfield 86, 3) := by decide +kernel
theorem d_M_reaches_38 : decode b_M_reaches 38 = .ok (.if_icmp .ge 30, 3) := by decide +kernel
theorem d_M_reaches_41 : decode b_M_reaches 41 = .ok (.aload_n 0, 1) := by decide +kernel
theorem d_M_reaches_42 : decode b_M_reaches 42 = .ok (.getfield 47, 3) := by decide +kernel
theorem d_M_reaches_45 : decode b_M_reaches 45 = .ok (.iconst 4, 1) := by decide +kernel
theorem d_M_reaches_46 : decode b_M_reaches 46 = .ok (.aload_n 0, 1) := by decide +kernel
theorem d_M_reaches_47 : decode b_M_reaches 47 = .ok (.getfield 28, 3) := by decide +kernel
theorem d_M_reaches_50 : decode b_M_reaches 50 = .ok (.iload_n 1, 1) := by decide +kernel
theorem d_M_reaches_51 : decode b_M_reaches 51 = .ok (.iaload, 1) := by decide +kernel
theorem d_M_reaches_52 : decode b_M_reaches 52 = .ok (.imul, 1) := by decide +kernel
theorem d_M_reaches_53 : decode b_M_reaches 53 = .ok (.aload_n 0, 1) := by decide +kernel
theorem d_M_reaches_54 : decode b_M_reaches 54 = .ok (.getfield 31, 3) := by decide +kernel
theorem d_M_reaches_57 : decode b_M_reaches 57 = .ok (.iload_n 1, 1) := by decide +kernel
theorem d_M_reaches_58 : decode b_M_reaches 58 = .ok (.iaload, 1) := by decide +kernel
theorem d_M_reaches_59 : decode b_M_reaches 59 = .ok (.iadd, 1) := by decide +kernel
theorem d_M_reaches_60 : decode b_M_reaches 60 = .ok (.iconst 1, 1) := by decide +kernel
theorem d_M_reaches_61 : decode b_M_reaches 61 = .ok (.bastore, 1) := by decide +kernel
theorem d_M_reaches_62 : decode b_M_reaches 62 = .ok (.iinc 1 1, 3) := by decide +kernel
theorem d_M_reaches_65 : decode b_M_reaches 65 = .ok (.goto (-32), 3) := by decide +kernel
theorem d_M_reaches_68 : decode b_M_reaches 68 = .ok (.iconst 0, 1) := by decide +kernel
theorem d_M_reaches_69 : decode b_M_reaches 69 = .ok (.istore_n 1, 1) := by decide +kernel
theorem d_M_reaches_70 : decode b_M_reaches 70 = .ok (.iload_n 1, 1) := by decide +kernel
theorem d_M_reaches_71 : decode b_M_reaches 71 = .ok (.iconst 4, 1) := by decide +kernel
theorem d_M_reaches_72 : decode b_M_reaches 72 = .ok (.if_icmp .ge 89, 3) := by decide +kernel
theorem d_M_reaches_75 : decode b_M_reaches 75 = .ok (.iconst 0, 1) := by decide +kernel
theorem d_M_reaches_76 : decode b_M_reaches 76 = .ok (.istore_n 2, 1) := by decide +kernel
theorem d_M_reaches_77 : decode b_M_reaches 77 = .ok (.iload_n 2, 1) := by decide +kernel
theorem d_M_reaches_78 : decode b_M_reaches 78 = .ok (.iconst 4, 1) := by decide +kernel
theorem d_M_reaches_79 : decode b_M_reaches 79 = .ok (.if_icmp .ge 76, 3) := by decide +kernel
theorem d_M_reaches_82 : decode b_M_reaches 82 = .ok (.iconst 0, 1) := by decide +kernel
theorem d_M_reaches_83 : decode b_M_reaches 83 = .ok (.istore_n 3, 1) := by decide +kernel
theorem d_M_reaches_84 : decode b_M_reaches 84 = .ok (.iload_n 3, 1) := by decide +kernel
theorem d_M_reaches_85 : decode b_M_reaches 85 = .ok (.iconst 4, 1) := by decide +kernel
theorem d_M_reaches_86 : decode b_M_reaches 86 = .ok (.if_icmp .ge 63, 3) := by decide +kernel
theorem d_M_reaches_89 : decode b_M_reaches 89 = .ok (.aload_n 0, 1) := by decide +kernel
theorem d_M_reaches_90 : decode b_M_reaches 90 = .ok (.getfield 47, 3) := by decide +kernel
theorem d_M_reaches_93 : decode b_M_reaches 93 = .ok (.iconst 4, 1) := by decide +kernel
theorem d_M_reaches_94 : decode b_M_reaches 94 = .ok (.iload_n 2, 1) := by decide +kernel
theorem d_M_reaches_95 : decode b_M_reaches 95 = .ok (.imul, 1) := by decide +kernel
theorem d_M_reaches_96 : decode b_M_reaches 96 = .ok (.iload_n 3, 1) := by decide +kernel
theorem d_M_reaches_97 : decode b_M_reaches 97 = .ok (.iadd, 1) := by decide +kernel
theorem d_M_reaches_98 : decode b_M_reaches 98 = .ok (.aload_n 0, 1) := by decide +kernel
theorem d_M_reaches_99 : decode b_M_reaches 99 = .ok (.getfield 47, 3) := by decide +kernel
theorem d_M_reaches_102 : decode b_M_reaches 102 = .ok (.iconst 4, 1) := by decide +kernel
theorem d_M_reaches_103 : decode b_M_reaches 103 = .ok (.iload_n 2, 1) := by decide +kernel
theorem d_M_reaches_104 : decode b_M_reaches 104 = .ok (.imul, 1) := by decide +kernel
theorem d_M_reaches_105 : decode b_M_reaches 105 = .ok (.iload_n 3, 1) := by decide +kernel
theorem d_M_reaches_106 : decode b_M_reaches 106 = .ok (.iadd, 1) := by decide +kernel
theorem d_M_reaches_107 : decode b_M_reaches 107 = .ok (.baload, 1) := by decide +kernel
theorem d_M_reaches_108 : decode b_M_reaches 108 = .ok (.ifCond .ne 29, 3) := by decide +kernel
theorem d_M_reaches_111 : decode b_M_reaches 111 = .ok (.aload_n 0, 1) := by decide +kernel
theorem d_M_reaches_112 : decode b_M_reaches 112 = .ok (.getfield 47, 3) := by decide +kernel
theorem d_M_reaches_115 : decode b_M_reaches 115 = .ok (.iconst 4, 1) := by decide +kernel
theorem d_M_reaches_116 : decode b_M_reaches 116 = .ok (.iload_n 2, 1) := by decide +kernel
theorem d_M_reaches_117 : decode b_M_reaches 117 = .ok (.imul, 1) := by decide +kernel
theorem d_M_reaches_118 : decode b_M_reaches 118 = .ok (.iload_n 1, 1) := by decide +kernel
theorem d_M_reaches_119 : decode b_M_reaches 119 = .ok (.iadd, 1) := by decide +kernel
theorem d_M_reaches_120 : decode b_M_reaches 120 = .ok (.baload, 1) := by decide +kernel
theorem d_M_reaches_121 : decode b_M_reaches 121 = .ok (.ifCond .eq 20, 3) := by decide +kernel
theorem d_M_reaches_124 : decode b_M_reaches 124 = .ok (.aload_n 0, 1) := by decide +kernel
theorem d_M_reaches_125 : decode b_M_reaches 125 = .ok (.getfield 47, 3) := by decide +kernel
theorem d_M_reaches_128 : decode b_M_reaches 128 = .ok (.iconst 4, 1) := by decide +kernel
theorem d_M_reaches_129 : decode b_M_reaches 129 = .ok (.iload_n 1, 1) := by decide +kernel
theorem d_M_reaches_130 : decode b_M_reaches 130 = .ok (.imul, 1) := by decide +kernel
theorem d_M_reaches_131 : decode b_M_reaches 131 = .ok (.iload_n 3, 1) := by decide +kernel
theorem d_M_reaches_132 : decode b_M_reaches 132 = .ok (.iadd, 1) := by decide +kernel
theorem d_M_reaches_133 : decode b_M_reaches 133 = .ok (.baload, 1) := by decide +kernel
theorem d_M_reaches_134 : decode b_M_reaches 134 = .ok (.ifCond .eq 7, 3) := by decide +kernel
theorem d_M_reaches_137 : decode b_M_reaches 137 = .ok (.iconst 1, 1) := by decide +kernel
theorem d_M_reaches_138 : decode b_M_reaches 138 = .ok (.goto 4, 3) := by decide +kernel
theorem d_M_reaches_141 : decode b_M_reaches 141 = .ok (.iconst 0, 1) := by decide +kernel
theorem d_M_reaches_142 : decode b_M_reaches 142 = .ok (.bastore, 1) := by decide +kernel
theorem d_M_reaches_143 : decode b_M_reaches 143 = .ok (.iinc 3 1, 3) := by decide +kernel
theorem d_M_reaches_146 : decode b_M_reaches 146 = .ok (.goto (-62), 3) := by decide +kernel
theorem d_M_reaches_149 : decode b_M_reaches 149 = .ok (.iinc 2 1, 3) := by decide +kernel
theorem d_M_reaches_152 : decode b_M_reaches 152 = .ok (.goto (-75), 3) := by decide +kernel
theorem d_M_reaches_155 : decode b_M_reaches 155 = .ok (.iinc 1 1, 3) := by decide +kernel
theorem d_M_reaches_158 : decode b_M_reaches 158 = .ok (.goto (-88), 3) := by decide +kernel
theorem d_M_reaches_161 : decode b_M_reaches 161 = .ok (.return_, 1) := by decide +kernel
