theorem d_M_fill_0 : decode b_M_fill 0 = .ok (.iconst 0, 1) := by decide +kernel
theorem d_M_fill_1 : decode b_M_fill 1 = .ok (.istore_n 2, 1) := by decide +kernel
theorem d_M_fill_2 : decode b_M_fill 2 = .ok (.iload_n 2, 1) := by decide +kernel
theorem d_M_fill_3 : decode b_M_fill 3 = .ok (.sipush 1024, 3) := by decide +kernel
theorem d_M_fill_6 : decode b_M_fill 6 = .ok (.if_icmp .ge 16, 3) := by decide +kernel
theorem d_M_fill_9 : decode b_M_fill 9 = .ok (.aload_n 0, 1) := by decide +kernel
theorem d_M_fill_10 : decode b_M_fill 10 = .ok (.getfield 68, 3) := by decide +kernel
theorem d_M_fill_13 : decode b_M_fill 13 = .ok (.iload_n 2, 1) := by decide +kernel
theorem d_M_fill_14 : decode b_M_fill 14 = .ok (.iconst 0, 1) := by decide +kernel
theorem d_M_fill_15 : decode b_M_fill 15 = .ok (.bastore, 1) := by decide +kernel
theorem d_M_fill_16 : decode b_M_fill 16 = .ok (.iinc 2 1, 3) := by decide +kernel
theorem d_M_fill_19 : decode b_M_fill 19 = .ok (.goto (-17), 3) := by decide +kernel
theorem d_M_fill_22 : decode b_M_fill 22 = .ok (.iconst 0, 1) := by decide +kernel
theorem d_M_fill_23 : decode b_M_fill 23 = .ok (.istore_n 2, 1) := by decide +kernel
theorem d_M_fill_24 : decode b_M_fill 24 = .ok (.iload_n 2, 1) := by decide +kernel
theorem d_M_fill_25 : decode b_M_fill 25 = .ok (.iload_n 1, 1) := by decide +kernel
theorem d_M_fill_26 : decode b_M_fill 26 = .ok (.ifCond .ne 9, 3) := by decide +kernel
theorem d_M_fill_29 : decode b_M_fill 29 = .ok (.sipush 128, 3) := by decide +kernel
theorem d_M_fill_32 : decode b_M_fill 32 = .ok (.goto 5, 3) := by decide +kernel
theorem d_M_fill_35 : decode b_M_fill 35 = .ok (.bipush 16, 2) := by decide +kernel
theorem d_M_fill_37 : decode b_M_fill 37 = .ok (.if_icmp .ge 123, 3) := by decide +kernel
theorem d_M_fill_40 : decode b_M_fill 40 = .ok (.iconst 0, 1) := by decide +kernel
theorem d_M_fill_41 : decode b_M_fill 41 = .ok (.istore_n 3, 1) := by decide +kernel
theorem d_M_fill_42 : decode b_M_fill 42 = .ok (.iload_n 3, 1) := by decide +kernel
theorem d_M_fill_43 : decode b_M_fill 43 = .ok (.bipush 8, 2) := by decide +kernel
theorem d_M_fill_45 : decode b_M_fill 45 = .ok (.if_icmp .ge 109, 3) := by decide +kernel
theorem d_M_fill_48 : decode b_M_fill 48 = .ok (.iload_n 1, 1) := by decide +kernel
theorem d_M_fill_49 : decode b_M_fill 49 = .ok (.ifCond .ne 12, 3) := by decide +kernel
theorem d_M_fill_52 : decode b_M_fill 52 = .ok (.aload_n 0, 1) := by decide +kernel
theorem d_M_fill_53 : decode b_M_fill 53 = .ok (.getfield 62, 3) := by decide +kernel
theorem d_M_fill_56 : decode b_M_fill 56 = .ok (.iload_n 2, 1) := by decide +kernel
theorem d_M_fill_57 : decode b_M_fill 57 = .ok (.iaload, 1) := by decide +kernel
theorem d_M_fill_58 : decode b_M_fill 58 = .ok (.goto 9, 3) := by decide +kernel
theorem d_M_fill_61 : decode b_M_fill 61 = .ok (.aload_n 0, 1) := by decide +kernel
theorem d_M_fill_62 : decode b_M_fill 62 = .ok (.getfield 65, 3) := by decide +kernel
theorem d_M_fill_65 : decode b_M_fill 65 = .ok (.iload_n 2, 1) := by decide +kernel
theorem d_M_fill_66 : decode b_M_fill 66 = .ok (.iaload, 1) := by decide +kernel
theorem d_M_fill_67 : decode b_M_fill 67 = .ok (.iload_n 3, 1) := by decide +kernel
theorem d_M_fill_68 : decode b_M_fill 68 = .ok (.ishr, 1) := by decide +kernel
theorem d_M_fill_69 : decode b_M_fill 69 = .ok (.iconst 1, 1) := by decide +kernel
theorem d_M_fill_70 : decode b_M_fill 70 = .ok (.iand, 1) := by decide +kernel
theorem d_M_fill_71 : decode b_M_fill 71 = .ok (.iconst 1, 1) := by decide +kernel
theorem d_M_fill_72 : decode b_M_fill 72 = .ok (.if_icmp .ne 7, 3) := by decide +kernel
theorem d_M_fill_75 : decode b_M_fill 75 = .ok (.iconst 1, 1) := by decide +kernel
theorem d_M_fill_76 : decode b_M_fill 76 = .ok (.goto 4, 3) := by decide +kernel
theorem d_M_fill_79 : decode b_M_fill 79 = .ok (.iconst 0, 1) := by decide +kernel
theorem d_M_fill_80 : decode b_M_fill 80 = .ok (.istore 4, 2) := by decide +kernel
theorem d_M_fill_82 : decode b_M_fill 82 = .ok (.iload_n 1, 1) := by decide +kernel
theorem d_M_fill_83 : decode b_M_fill 83 = .ok (.ifCond .ne 22, 3) := by decide +kernel
theorem d_M_fill_86 : decode b_M_fill 86 = .ok (.aload_n 0, 1) := by decide +kernel
theorem d_M_fill_87 : decode b_M_fill 87 = .ok (.iload_n 2, 1) := by decide +kernel
theorem d_M_fill_88 : decode b_M_fill 88 = .ok (.bipush 16, 2) := by decide +kernel
theorem d_M_fill_90 : decode b_M_fill 90 = .ok (.idiv, 1) := by decide +kernel
theorem d_M_fill_91 : decode b_M_fill 91 = .ok (.iload_n 2, 1) := by decide +kernel
theorem d_M_fill_92 : decode b_M_fill 92 = .ok (.bipush 16, 2) := by decide +kernel
theorem d_M_fill_94 : decode b_M_fill 94 = .ok (.irem, 1) := by decide +kernel
theorem d_M_fill_95 : decode b_M_fill 95 = .ok (.iload_n 3, 1) := by decide +kernel
theorem d_M_fill_96 : decode b_M_fill 96 = .ok (.iconst 3, 1) := by decide +kernel
theorem d_M_fill_97 : decode b_M_fill 97 = .ok (.iconst 4, 1) := by decide +kernel
theorem d_M_fill_98 : decode b_M_fill 98 = .ok (.iconst 3, 1) := by decide +kernel
theorem d_M_fill_99 : decode b_M_fill 99 = .ok (.invokevirtual 145, 3) := by decide +kernel
theorem d_M_fill_102 : decode b_M_fill 102 = .ok (.goto 17, 3) := by decide +kernel
theorem d_M_fill_105 : decode b_M_fill 105 = .ok (.aload_n 0, 1) := by decide +kernel
theorem d_M_fill_106 : decode b_M_fill 106 = .ok (.iload_n 2, 1) := by decide +kernel
theorem d_M_fill_107 : decode b_M_fill 107 = .ok (.iconst 2, 1) := by decide +kernel
theorem d_M_fill_108 : decode b_M_fill 108 = .ok (.idiv, 1) := by decide +kernel
theorem d_M_fill_109 : decode b_M_fill 109 = .ok (.iload_n 2, 1) := by decide +kernel
theorem d_M_fill_110 : decode b_M_fill 110 = .ok (.iconst 2, 1) := by decide +kernel
theorem d_M_fill_111 : decode b_M_fill 111 = .ok (.irem, 1) := by decide +kernel
theorem d_M_fill_112 : decode b_M_fill 112 = .ok (.iload_n 3, 1) := by decide +kernel
theorem d_M_fill_113 : decode b_M_fill 113 = .ok (.iconst 3, 1) := by decide +kernel
theorem d_M_fill_114 : decode b_M_fill 114 = .ok (.iconst 1, 1) := by decide +kernel
theorem d_M_fill_115 : decode b_M_fill 115 = .ok (.iconst 3, 1) := by decide +kernel
theorem d_M_fill_116 : decode b_M_fill 116 = .ok (.invokevirtual 145, 3) := by decide +kernel
theorem d_M_fill_119 : decode b_M_fill 119 = .ok (.istore 5, 2) := by decide +kernel
theorem d_M_fill_121 : decode b_M_fill 121 = .ok (.aload_n 0, 1) := by decide +kernel
theorem d_M_fill_122 : decode b_M_fill 122 = .ok (.getfield 68, 3) := by decide +kernel
theorem d_M_fill_125 : decode b_M_fill 125 = .ok (.iload 5, 2) := by decide +kernel
theorem d_M_fill_127 : decode b_M_fill 127 = .ok (.aload_n 0, 1) := by decide +kernel
theorem d_M_fill_128 : decode b_M_fill 128 = .ok (.getfield 68, 3) := by decide +kernel
theorem d_M_fill_131 : decode b_M_fill 131 = .ok (.iload 5, 2) := by decide +kernel
theorem d_M_fill_133 : decode b_M_fill 133 = .ok (.baload, 1) := by decide +kernel
theorem d_M_fill_134 : decode b_M_fill 134 = .ok (.ifCond .ne 8, 3) := by decide +kernel
theorem d_M_fill_137 : decode b_M_fill 137 = .ok (.iload 4, 2) := by decide +kernel
theorem d_M_fill_139 : decode b_M_fill 139 = .ok (.ifCond .eq 7, 3) := by decide +kernel
theorem d_M_fill_142 : decode b_M_fill 142 = .ok (.iconst 1, 1) := by decide +kernel
theorem d_M_fill_143 : decode b_M_fill 143 = .ok (.goto 4, 3) := by decide +kernel
theorem d_M_fill_146 : decode b_M_fill 146 = .ok (.iconst 0, 1) := by decide +kernel
theorem d_M_fill_147 : decode b_M_fill 147 = .ok (.bastore, 1) := by decide +kernel
theorem d_M_fill_148 : decode b_M_fill 148 = .ok (.iinc 3 1, 3) := by decide +kernel
theorem d_M_fill_151 : decode b_M_fill 151 = .ok (.goto (-109), 3) := by decide +kernel
theorem d_M_fill_154 : decode b_M_fill 154 = .ok (.iinc 2 1, 3) := by decide +kernel
theorem d_M_fill_157 : decode b_M_fill 157 = .ok (.goto (-133), 3) := by decide +kernel
theorem d_M_fill_160 : decode b_M_fill 160 = .ok (.return_, 1) := by decide +kernel
theorem d_M_index_0 : decode b_M_index 0 = .ok (.iconst 0, 1) := by decide +kernel
theorem d_M_index_1 : decode b_M_index 1 = .ok (.istore 7, 2) := by decide +kernel
theorem d_M_index_3 : decode b_M_index 3 = .ok (.iconst 0, 1) := by decide +kernel
theorem d_M_index_4 : decode b_M_index 4 = .ok (.istore 8, 2) := by decide +kernel
theorem d_M_index_6 : decode b_M_index 6 = .ok (.iload 8, 2) := by decide +kernel
theorem d_M_index_8 : decode b_M_index 8 = .ok (.iconst 3, 1) := by decide +kernel
theorem d_M_index_9 : decode b_M_index 9 = .ok (.if_icmp .ge 57, 3) := by decide +kernel
theorem d_M_index_12 : decode b_M_index 12 = .ok (.aload_n 0, 1) := by decide +kernel
theorem d_M_index_13 : decode b_M_index 13 = .ok (.iload 8, 2) := by decide +kernel
theorem d_M_index_15 : decode b_M_index 15 = .ok (.invokevirtual 142, 3) := by decide +kernel
theorem d_M_index_18 : decode b_M_index 18 = .ok (.istore 9, 2) := by decide +kernel
theorem d_M_index_20 : decode b_M_index 20 = .ok (.iload 9, 2) := by decide +kernel
theorem d_M_index_22 : decode b_M_index 22 = .ok (.ifCond .ne 13, 3) := by decide +kernel
theorem d_M_index_25 : decode b_M_index 25 = .ok (.iload 7, 2) := by decide +kernel
theorem d_M_index_27 : decode b_M_index 27 = .ok (.iload 4, 2) := by decide +kernel
theorem d_M_index_29 : decode b_M_index 29 = .ok (.ishl, 1) := by decide +kernel
theorem d_M_index_30 : decode b_M_index 30 = .ok (.iload_n 1, 1) := by decide +kernel
theorem d_M_index_31 : decode b_M_index 31 = .ok (.ior, 1) := by decide +kernel
theorem d_M_index_32 : decode b_M_index 32 = .ok (.goto 26, 3) := by decide +kernel
theorem d_M_index_35 : decode b_M_index 35 = .ok (.iload 9, 2) := by decide +kernel
theorem d_M_index_37 : decode b_M_index 37 = .ok (.iconst 1, 1) := by decide +kernel
theorem d_M_index_38 : decode b_M_index 38 = .ok (.if_icmp .ne 13, 3) := by decide +kernel
theorem d_M_index_41 : decode b_M_index 41 = .ok (.iload 7, 2) := by decide +kernel
theorem d_M_index_43 : decode b_M_index 43 = .ok (.iload 5, 2) := by decide +kernel
theorem d_M_index_45 : decode b_M_index 45 = .ok (.ishl, 1) := by decide +kernel
theorem d_M_index_46 : decode b_M_index 46 = .ok (.iload_n 2, 1) := by decide +kernel
theorem d_M_index_47 : decode b_M_index 47 = .ok (.ior, 1) := by decide +kernel
theorem d_M_index_48 : decode b_M_index 48 = .ok (.goto 10, 3) := by decide +kernel
theorem d_M_index_51 : decode b_M_index 51 = .ok (.iload 7, 2) := by decide +kernel
theorem d_M_index_53 : decode b_M_index 53 = .ok (.iload 6, 2) := by decide +kernel
theorem d_M_index_55 : decode b_M_index 55 = .ok (.ishl, 1) := by decide +kernel
theorem d_M_index_56 : decode b_M_index 56 = .ok (.iload_n 3, 1) := by decide +kernel
theorem d_M_index_57 : decode b_M_index 57 = .ok (.ior, 1) := by decide +kernel
theorem d_M_index_58 : decode b_M_index 58 = .ok (.istore 7, 2) := by decide +kernel
theorem d_M_index_60 : decode b_M_index 60 = .ok (.iinc 8 1, 3) := by decide +kernel
theorem d_M_index_63 : decode b_M_index 63 = .ok (.goto (-57), 3) := by decide +kernel
theorem d_M_index_66 : decode b_M_index 66 = .ok (.iload 7, 2) := by decide +kernel
theorem d_M_index_68 : decode b_M_index 68 = .ok (.ireturn, 1) := by decide +kernel
theorem d_M_number_0 : decode b_M_number 0 = .ok (.aload_n 0, 1) := by decide +kernel
theorem d_M_number_1 : decode b_M_number 1 = .ok (.getfield 139, 3) := by decide +kernel
theorem d_M_number_4 : decode b_M_number 4 = .ok (.iconst 2, 1) := by decide +kernel
theorem d_M_number_5 : decode b_M_number 5 = .ok (.idiv, 1) := by decide +kernel
theorem d_M_number_6 : decode b_M_number 6 = .ok (.istore_n 2, 1) := by decide +kernel
theorem d_M_number_7 : decode b_M_number 7 = .ok (.iload_n 1, 1) := by decide +kernel
theorem d_M_number_8 : decode b_M_number 8 = .ok (.ifCond .ne 5, 3) := by decide +kernel
theorem d_M_number_11 : decode b_M_number 11 = .ok (.iload_n 2, 1) := by decide +kernel
theorem d_M_number_12 : decode b_M_number 12 = .ok (.ireturn, 1) := by decide +kernel
theorem d_M_number_13 : decode b_M_number 13 = .ok (.iload_n 2, 1) := by decide +kernel
theorem d_M_number_14 : decode b_M_number 14 = .ok (.ifCond .ne 7, 3) := by decide +kernel
theorem d_M_number_17 : decode b_M_number 17 = .ok (.iconst 1, 1) := by decide +kernel
theorem d_M_number_18 : decode b_M_number 18 = .ok (.goto 4, 3) := by decide +kernel
theorem d_M_number_21 : decode b_M_number 21 = .ok (.iconst 0, 1) := by decide +kernel
theorem d_M_number_22 : decode b_M_number 22 = .ok (.istore_n 3, 1) := by decide +kernel
theorem d_M_number_23 : decode b_M_number 23 = .ok (.iconst 3, 1) := by decide +kernel
theorem d_M_number_24 : decode b_M_number 24 = .ok (.iload_n 2, 1) := by decide +kernel
theorem d_M_number_25 : decode b_M_number 25 = .ok (.isub, 1) := by decide +kernel
theorem d_M_number_26 : decode b_M_number 26 = .ok (.iload_n 3, 1) := by decide +kernel
theorem d_M_number_27 : decode b_M_number 27 = .ok (.isub, 1) := by decide +kernel
theorem d_M_number_28 : decode b_M_number 28 = .ok (.istore 4, 2) := by decide +kernel
theorem d_M_number_30 : decode b_M_number 30 = .ok (.aload_n 0, 1) := by decide +kernel
theorem d_M_number_31 : decode b_M_number 31 = .ok (.getfield 139, 3) := by decide +kernel
theorem d_M_number_34 : decode b_M_number 34 = .ok (.iconst 2, 1) := by decide +kernel
theorem d_M_number_35 : decode b_M_number 35 = .ok (.irem, 1) := by decide +kernel
theorem d_M_number_36 : decode b_M_number 36 = .ok (.ifCond .ne 7, 3) := by decide +kernel
theorem d_M_number_39 : decode b_M_number 39 = .ok (.iconst 1, 1) := by decide +kernel
theorem d_M_number_40 : decode b_M_number 40 = .ok (.goto 4, 3) := by decide +kernel
theorem d_M_number_43 : decode b_M_number 43 = .ok (.iconst 0, 1) := by decide +kernel
theorem d_M_number_44 : decode b_M_number 44 = .ok (.iload_n 1, 1) := by decide +kernel
theorem d_M_number_45 : decode b_M_number 45 = .ok (.iconst 1, 1) := by decide +kernel
theorem d_M_number_46 : decode b_M_number 46 = .ok (.if_icmp .ne 7, 3) := by decide +kernel
theorem d_M_number_49 : decode b_M_number 49 = .ok (.iconst 1, 1) := by decide +kernel
theorem d_M_number_50 : decode b_M_number 50 = .ok (.goto 4, 3) := by decide +kernel
theorem d_M_number_53 : decode b_M_number 53 = .ok (.iconst 0, 1) := by decide +kernel
theorem d_M_number_54 : decode b_M_number 54 = .ok (.if_icmp .ne 7, 3) := by decide +kernel
theorem d_M_number_57 : decode b_M_number 57 = .ok (.iload_n 3, 1) := by decide +kernel
theorem d_M_number_58 : decode b_M_number 58 = .ok (.goto 5, 3) := by decide +kernel
theorem d_M_number_61 : decode b_M_number 61 = .ok (.iload 4, 2) := by decide +kernel
theorem d_M_number_63 : decode b_M_number 63 = .ok (.ireturn, 1) := by decide +kernel
theorem d_M_same_0 : decode b_M_same 0 = .ok (.iconst 0, 1) := by decide +kernel
theorem d_M_same_1 : decode b_M_same 1 = .ok (.istore 4, 2) := by decide +kernel
theorem d_M_same_3 : decode b_M_same 3 = .ok (.iload 4, 2) := by decide +kernel
theorem d_M_same_5 : decode b_M_same 5 = .ok (.iload_n 3, 1) := by decide +kernel
theorem d_M_same_6 : decode b_M_same 6 = .ok (.if_icmp .ge 30, 3) := by decide +kernel
theorem d_M_same_9 : decode b_M_same 9 = .ok (.aload_n 0, 1) := by decide +kernel
theorem d_M_same_10 : decode b_M_same 10 = .ok (.getfield 68, 3) := by decide +kernel
theorem d_M_same_13 : decode b_M_same 13 = .ok (.iload_n 1, 1) := by decide +kernel
theorem d_M_same_14 : decode b_M_same 14 = .ok (.iload 4, 2) := by decide +kernel
theorem d_M_same_16 : decode b_M_same 16 = .ok (.iadd, 1) := by decide +kernel
theorem d_M_same_17 : decode b_M_same 17 = .ok (.baload, 1) := by decide +kernel
theorem d_M_same_18 : decode b_M_same 18 = .ok (.aload_n 0, 1) := by decide +kernel
theorem d_M_same_19 : decode b_M_same 19 = .ok (.getfield 68, 3) := by decide +kernel
theorem d_M_same_22 : decode b_M_same 22 = .ok (.iload_n 2, 1) := by decide +kernel
theorem d_M_same_23 : decode b_M_same 23 = .ok (.iload 4, 2) := by decide +kernel
theorem d_M_same_25 : decode b_M_same 25 = .ok (.iadd, 1) := by decide +kernel
theorem d_M_same_26 : decode b_M_same 26 = .ok (.baload, 1) := by decide +kernel
theorem d_M_same_27 : decode b_M_same 27 = .ok (.if_icmp .ne 9, 3) := by decide +kernel
theorem d_M_same_30 : decode b_M_same 30 = .ok (.iinc 4 1, 3) := by decide +kernel
theorem d_M_same_33 : decode b_M_same 33 = .ok (.goto (-30), 3) := by decide +kernel
theorem d_M_same_36 : decode b_M_same 36 = .ok (.iload 4, 2) := by decide +kernel
theorem d_M_same_38 : decode b_M_same 38 = .ok (.iload_n 3, 1) := by decide +kernel
theorem d_M_same_39 : decode b_M_same 39 = .ok (.if_icmp .ne 7, 3) := by decide +kernel
theorem d_M_same_42 : decode b_M_same 42 = .ok (.iconst 1, 1) := by decide +kernel
theorem d_M_same_43 : decode b_M_same 43 = .ok (.goto 4, 3) := by decide +kernel
theorem d_M_same_46 : decode b_M_same 46 = .ok (.iconst 0, 1) := by decide +kernel
theorem d_M_same_47 : decode b_M_same 47 = .ok (.ireturn, 1) := by decide +kernel
