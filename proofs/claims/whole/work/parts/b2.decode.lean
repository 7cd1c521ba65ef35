theorem d_M_size_0 : decode b_M_size 0 = .ok (.iconst 0, 1) := by decide +kernel
theorem d_M_size_1 : decode b_M_size 1 = .ok (.istore_n 2, 1) := by decide +kernel
theorem d_M_size_2 : decode b_M_size 2 = .ok (.iload_n 1, 1) := by decide +kernel
theorem d_M_size_3 : decode b_M_size 3 = .ok (.tableswitch 103 0 4 #[33, 38, 43, 70, 98], 33) := by decide +kernel
theorem d_M_size_36 : decode b_M_size 36 = .ok (.aload_n 0, 1) := by decide +kernel
theorem d_M_size_37 : decode b_M_size 37 = .ok (.getfield 75, 3) := by decide +kernel
theorem d_M_size_40 : decode b_M_size 40 = .ok (.ireturn, 1) := by decide +kernel
theorem d_M_size_41 : decode b_M_size 41 = .ok (.aload_n 0, 1) := by decide +kernel
theorem d_M_size_42 : decode b_M_size 42 = .ok (.getfield 86, 3) := by decide +kernel
theorem d_M_size_45 : decode b_M_size 45 = .ok (.ireturn, 1) := by decide +kernel
theorem d_M_size_46 : decode b_M_size 46 = .ok (.iconst 0, 1) := by decide +kernel
theorem d_M_size_47 : decode b_M_size 47 = .ok (.istore_n 3, 1) := by decide +kernel
theorem d_M_size_48 : decode b_M_size 48 = .ok (.iload_n 3, 1) := by decide +kernel
theorem d_M_size_49 : decode b_M_size 49 = .ok (.aload_n 0, 1) := by decide +kernel
theorem d_M_size_50 : decode b_M_size 50 = .ok (.getfield 86, 3) := by decide +kernel
theorem d_M_size_53 : decode b_M_size 53 = .ok (.if_icmp .ge 18, 3) := by decide +kernel
theorem d_M_size_56 : decode b_M_size 56 = .ok (.iload_n 2, 1) := by decide +kernel
theorem d_M_size_57 : decode b_M_size 57 = .ok (.aload_n 0, 1) := by decide +kernel
theorem d_M_size_58 : decode b_M_size 58 = .ok (.getfield 34, 3) := by decide +kernel
theorem d_M_size_61 : decode b_M_size 61 = .ok (.iload_n 3, 1) := by decide +kernel
theorem d_M_size_62 : decode b_M_size 62 = .ok (.iaload, 1) := by decide +kernel
theorem d_M_size_63 : decode b_M_size 63 = .ok (.iadd, 1) := by decide +kernel
theorem d_M_size_64 : decode b_M_size 64 = .ok (.istore_n 2, 1) := by decide +kernel
theorem d_M_size_65 : decode b_M_size 65 = .ok (.iinc 3 1, 3) := by decide +kernel
theorem d_M_size_68 : decode b_M_size 68 = .ok (.goto (-20), 3) := by decide +kernel
theorem d_M_size_71 : decode b_M_size 71 = .ok (.iload_n 2, 1) := by decide +kernel
theorem d_M_size_72 : decode b_M_size 72 = .ok (.ireturn, 1) := by decide +kernel
theorem d_M_size_73 : decode b_M_size 73 = .ok (.iconst 0, 1) := by decide +kernel
theorem d_M_size_74 : decode b_M_size 74 = .ok (.istore_n 3, 1) := by decide +kernel
theorem d_M_size_75 : decode b_M_size 75 = .ok (.iload_n 3, 1) := by decide +kernel
theorem d_M_size_76 : decode b_M_size 76 = .ok (.bipush 16, 2) := by decide +kernel
theorem d_M_size_78 : decode b_M_size 78 = .ok (.if_icmp .ge 21, 3) := by decide +kernel
theorem d_M_size_81 : decode b_M_size 81 = .ok (.iload_n 2, 1) := by decide +kernel
theorem d_M_size_82 : decode b_M_size 82 = .ok (.aload_n 0, 1) := by decide +kernel
theorem d_M_size_83 : decode b_M_size 83 = .ok (.getfield 65, 3) := by decide +kernel
theorem d_M_size_86 : decode b_M_size 86 = .ok (.iload_n 3, 1) := by decide +kernel
theorem d_M_size_87 : decode b_M_size 87 = .ok (.iaload, 1) := by decide +kernel
theorem d_M_size_88 : decode b_M_size 88 = .ok (.invokestatic 133, 3) := by decide +kernel
theorem d_M_size_91 : decode b_M_size 91 = .ok (.iadd, 1) := by decide +kernel
theorem d_M_size_92 : decode b_M_size 92 = .ok (.istore_n 2, 1) := by decide +kernel
theorem d_M_size_93 : decode b_M_size 93 = .ok (.iinc 3 1, 3) := by decide +kernel
theorem d_M_size_96 : decode b_M_size 96 = .ok (.goto (-21), 3) := by decide +kernel
theorem d_M_size_99 : decode b_M_size 99 = .ok (.iload_n 2, 1) := by decide +kernel
theorem d_M_size_100 : decode b_M_size 100 = .ok (.ireturn, 1) := by decide +kernel
theorem d_M_size_101 : decode b_M_size 101 = .ok (.aload_n 0, 1) := by decide +kernel
theorem d_M_size_102 : decode b_M_size 102 = .ok (.getfield 139, 3) := by decide +kernel
theorem d_M_size_105 : decode b_M_size 105 = .ok (.ireturn, 1) := by decide +kernel
theorem d_M_size_106 : decode b_M_size 106 = .ok (.iconst (-1), 1) := by decide +kernel
theorem d_M_size_107 : decode b_M_size 107 = .ok (.ireturn, 1) := by decide +kernel
theorem d_M_solve_0 : decode b_M_solve 0 = .ok (.aload_n 0, 1) := by decide +kernel
theorem d_M_solve_1 : decode b_M_solve 1 = .ok (.invokevirtual 120, 3) := by decide +kernel
theorem d_M_solve_4 : decode b_M_solve 4 = .ok (.aload_n 0, 1) := by decide +kernel
theorem d_M_solve_5 : decode b_M_solve 5 = .ok (.invokevirtual 123, 3) := by decide +kernel
theorem d_M_solve_8 : decode b_M_solve 8 = .ok (.ifCond .ne 6, 3) := by decide +kernel
theorem d_M_solve_11 : decode b_M_solve 11 = .ok (.bipush (-3), 2) := by decide +kernel
theorem d_M_solve_13 : decode b_M_solve 13 = .ok (.ireturn, 1) := by decide +kernel
theorem d_M_solve_14 : decode b_M_solve 14 = .ok (.iconst 0, 1) := by decide +kernel
theorem d_M_solve_15 : decode b_M_solve 15 = .ok (.istore_n 1, 1) := by decide +kernel
theorem d_M_solve_16 : decode b_M_solve 16 = .ok (.iload_n 1, 1) := by decide +kernel
theorem d_M_solve_17 : decode b_M_solve 17 = .ok (.iconst 4, 1) := by decide +kernel
theorem d_M_solve_18 : decode b_M_solve 18 = .ok (.if_icmp .ge 21, 3) := by decide +kernel
theorem d_M_solve_21 : decode b_M_solve 21 = .ok (.aload_n 0, 1) := by decide +kernel
theorem d_M_solve_22 : decode b_M_solve 22 = .ok (.getfield 53, 3) := by decide +kernel
theorem d_M_solve_25 : decode b_M_solve 25 = .ok (.iload_n 1, 1) := by decide +kernel
theorem d_M_solve_26 : decode b_M_solve 26 = .ok (.aload_n 0, 1) := by decide +kernel
theorem d_M_solve_27 : decode b_M_solve 27 = .ok (.getfield 50, 3) := by decide +kernel
theorem d_M_solve_30 : decode b_M_solve 30 = .ok (.iload_n 1, 1) := by decide +kernel
theorem d_M_solve_31 : decode b_M_solve 31 = .ok (.iaload, 1) := by decide +kernel
theorem d_M_solve_32 : decode b_M_solve 32 = .ok (.iastore, 1) := by decide +kernel
theorem d_M_solve_33 : decode b_M_solve 33 = .ok (.iinc 1 1, 3) := by decide +kernel
theorem d_M_solve_36 : decode b_M_solve 36 = .ok (.goto (-20), 3) := by decide +kernel
theorem d_M_solve_39 : decode b_M_solve 39 = .ok (.iconst 0, 1) := by decide +kernel
theorem d_M_solve_40 : decode b_M_solve 40 = .ok (.istore_n 1, 1) := by decide +kernel
theorem d_M_solve_41 : decode b_M_solve 41 = .ok (.iload_n 1, 1) := by decide +kernel
theorem d_M_solve_42 : decode b_M_solve 42 = .ok (.aload_n 0, 1) := by decide +kernel
theorem d_M_solve_43 : decode b_M_solve 43 = .ok (.getfield 86, 3) := by decide +kernel
theorem d_M_solve_46 : decode b_M_solve 46 = .ok (.if_icmp .ge 50, 3) := by decide +kernel
theorem d_M_solve_49 : decode b_M_solve 49 = .ok (.aload_n 0, 1) := by decide +kernel
theorem d_M_solve_50 : decode b_M_solve 50 = .ok (.getfield 56, 3) := by decide +kernel
theorem d_M_solve_53 : decode b_M_solve 53 = .ok (.iload_n 1, 1) := by decide +kernel
theorem d_M_solve_54 : decode b_M_solve 54 = .ok (.aload_n 0, 1) := by decide +kernel
theorem d_M_solve_55 : decode b_M_solve 55 = .ok (.iload_n 1, 1) := by decide +kernel
theorem d_M_solve_56 : decode b_M_solve 56 = .ok (.invokevirtual 92, 3) := by decide +kernel
theorem d_M_solve_59 : decode b_M_solve 59 = .ok (.ifCond .eq 17, 3) := by decide +kernel
theorem d_M_solve_62 : decode b_M_solve 62 = .ok (.aload_n 0, 1) := by decide +kernel
theorem d_M_solve_63 : decode b_M_solve 63 = .ok (.aload_n 0, 1) := by decide +kernel
theorem d_M_solve_64 : decode b_M_solve 64 = .ok (.getfield 31, 3) := by decide +kernel
theorem d_M_solve_67 : decode b_M_solve 67 = .ok (.iload_n 1, 1) := by decide +kernel
theorem d_M_solve_68 : decode b_M_solve 68 = .ok (.iaload, 1) := by decide +kernel
theorem d_M_solve_69 : decode b_M_solve 69 = .ok (.iload_n 1, 1) := by decide +kernel
theorem d_M_solve_70 : decode b_M_solve 70 = .ok (.invokevirtual 96, 3) := by decide +kernel
theorem d_M_solve_73 : decode b_M_solve 73 = .ok (.goto 4, 3) := by decide +kernel
theorem d_M_solve_76 : decode b_M_solve 76 = .ok (.iconst 0, 1) := by decide +kernel
theorem d_M_solve_77 : decode b_M_solve 77 = .ok (.iastore, 1) := by decide +kernel
theorem d_M_solve_78 : decode b_M_solve 78 = .ok (.aload_n 0, 1) := by decide +kernel
theorem d_M_solve_79 : decode b_M_solve 79 = .ok (.getfield 59, 3) := by decide +kernel
theorem d_M_solve_82 : decode b_M_solve 82 = .ok (.iload_n 1, 1) := by decide +kernel
theorem d_M_solve_83 : decode b_M_solve 83 = .ok (.aload_n 0, 1) := by decide +kernel
theorem d_M_solve_84 : decode b_M_solve 84 = .ok (.getfield 28, 3) := by decide +kernel
theorem d_M_solve_87 : decode b_M_solve 87 = .ok (.iload_n 1, 1) := by decide +kernel
theorem d_M_solve_88 : decode b_M_solve 88 = .ok (.iaload, 1) := by decide +kernel
theorem d_M_solve_89 : decode b_M_solve 89 = .ok (.iastore, 1) := by decide +kernel
theorem d_M_solve_90 : decode b_M_solve 90 = .ok (.iinc 1 1, 3) := by decide +kernel
theorem d_M_solve_93 : decode b_M_solve 93 = .ok (.goto (-52), 3) := by decide +kernel
theorem d_M_solve_96 : decode b_M_solve 96 = .ok (.aload_n 0, 1) := by decide +kernel
theorem d_M_solve_97 : decode b_M_solve 97 = .ok (.aload_n 0, 1) := by decide +kernel
theorem d_M_solve_98 : decode b_M_solve 98 = .ok (.getfield 86, 3) := by decide +kernel
theorem d_M_solve_101 : decode b_M_solve 101 = .ok (.putfield 127, 3) := by decide +kernel
theorem d_M_solve_104 : decode b_M_solve 104 = .ok (.iconst 0, 1) := by decide +kernel
theorem d_M_solve_105 : decode b_M_solve 105 = .ok (.istore_n 1, 1) := by decide +kernel
theorem d_M_solve_106 : decode b_M_solve 106 = .ok (.iload_n 1, 1) := by decide +kernel
theorem d_M_solve_107 : decode b_M_solve 107 = .ok (.sipush 128, 3) := by decide +kernel
theorem d_M_solve_110 : decode b_M_solve 110 = .ok (.if_icmp .ge 16, 3) := by decide +kernel
theorem d_M_solve_113 : decode b_M_solve 113 = .ok (.aload_n 0, 1) := by decide +kernel
theorem d_M_solve_114 : decode b_M_solve 114 = .ok (.getfield 62, 3) := by decide +kernel
theorem d_M_solve_117 : decode b_M_solve 117 = .ok (.iload_n 1, 1) := by decide +kernel
theorem d_M_solve_118 : decode b_M_solve 118 = .ok (.iconst 0, 1) := by decide +kernel
theorem d_M_solve_119 : decode b_M_solve 119 = .ok (.iastore, 1) := by decide +kernel
theorem d_M_solve_120 : decode b_M_solve 120 = .ok (.iinc 1 1, 3) := by decide +kernel
theorem d_M_solve_123 : decode b_M_solve 123 = .ok (.goto (-17), 3) := by decide +kernel
theorem d_M_solve_126 : decode b_M_solve 126 = .ok (.iconst 0, 1) := by decide +kernel
theorem d_M_solve_127 : decode b_M_solve 127 = .ok (.istore_n 1, 1) := by decide +kernel
theorem d_M_solve_128 : decode b_M_solve 128 = .ok (.iload_n 1, 1) := by decide +kernel
theorem d_M_solve_129 : decode b_M_solve 129 = .ok (.bipush 16, 2) := by decide +kernel
theorem d_M_solve_131 : decode b_M_solve 131 = .ok (.if_icmp .ge 16, 3) := by decide +kernel
theorem d_M_solve_134 : decode b_M_solve 134 = .ok (.aload_n 0, 1) := by decide +kernel
theorem d_M_solve_135 : decode b_M_solve 135 = .ok (.getfield 65, 3) := by decide +kernel
theorem d_M_solve_138 : decode b_M_solve 138 = .ok (.iload_n 1, 1) := by decide +kernel
theorem d_M_solve_139 : decode b_M_solve 139 = .ok (.iconst 0, 1) := by decide +kernel
theorem d_M_solve_140 : decode b_M_solve 140 = .ok (.iastore, 1) := by decide +kernel
theorem d_M_solve_141 : decode b_M_solve 141 = .ok (.iinc 1 1, 3) := by decide +kernel
theorem d_M_solve_144 : decode b_M_solve 144 = .ok (.goto (-16), 3) := by decide +kernel
theorem d_M_solve_147 : decode b_M_solve 147 = .ok (.iconst 1, 1) := by decide +kernel
theorem d_M_solve_148 : decode b_M_solve 148 = .ok (.istore_n 1, 1) := by decide +kernel
theorem d_M_solve_149 : decode b_M_solve 149 = .ok (.iconst 0, 1) := by decide +kernel
theorem d_M_solve_150 : decode b_M_solve 150 = .ok (.istore_n 2, 1) := by decide +kernel
theorem d_M_solve_151 : decode b_M_solve 151 = .ok (.iload_n 2, 1) := by decide +kernel
theorem d_M_solve_152 : decode b_M_solve 152 = .ok (.sipush 1200, 3) := by decide +kernel
theorem d_M_solve_155 : decode b_M_solve 155 = .ok (.if_icmp .ge 18, 3) := by decide +kernel
theorem d_M_solve_158 : decode b_M_solve 158 = .ok (.iload_n 1, 1) := by decide +kernel
theorem d_M_solve_159 : decode b_M_solve 159 = .ok (.ifCond .eq 14, 3) := by decide +kernel
theorem d_M_solve_162 : decode b_M_solve 162 = .ok (.aload_n 0, 1) := by decide +kernel
theorem d_M_solve_163 : decode b_M_solve 163 = .ok (.invokevirtual 130, 3) := by decide +kernel
theorem d_M_solve_166 : decode b_M_solve 166 = .ok (.istore_n 1, 1) := by decide +kernel
theorem d_M_solve_167 : decode b_M_solve 167 = .ok (.iinc 2 1, 3) := by decide +kernel
theorem d_M_solve_170 : decode b_M_solve 170 = .ok (.goto (-19), 3) := by decide +kernel
theorem d_M_solve_173 : decode b_M_solve 173 = .ok (.iconst 0, 1) := by decide +kernel
theorem d_M_solve_174 : decode b_M_solve 174 = .ok (.istore_n 2, 1) := by decide +kernel
theorem d_M_solve_175 : decode b_M_solve 175 = .ok (.iconst 0, 1) := by decide +kernel
theorem d_M_solve_176 : decode b_M_solve 176 = .ok (.istore_n 3, 1) := by decide +kernel
theorem d_M_solve_177 : decode b_M_solve 177 = .ok (.iload_n 3, 1) := by decide +kernel
theorem d_M_solve_178 : decode b_M_solve 178 = .ok (.sipush 128, 3) := by decide +kernel
theorem d_M_solve_181 : decode b_M_solve 181 = .ok (.if_icmp .ge 21, 3) := by decide +kernel
theorem d_M_solve_184 : decode b_M_solve 184 = .ok (.iload_n 2, 1) := by decide +kernel
theorem d_M_solve_185 : decode b_M_solve 185 = .ok (.aload_n 0, 1) := by decide +kernel
theorem d_M_solve_186 : decode b_M_solve 186 = .ok (.getfield 62, 3) := by decide +kernel
theorem d_M_solve_189 : decode b_M_solve 189 = .ok (.iload_n 3, 1) := by decide +kernel
theorem d_M_solve_190 : decode b_M_solve 190 = .ok (.iaload, 1) := by decide +kernel
theorem d_M_solve_191 : decode b_M_solve 191 = .ok (.invokestatic 133, 3) := by decide +kernel
theorem d_M_solve_194 : decode b_M_solve 194 = .ok (.iadd, 1) := by decide +kernel
theorem d_M_solve_195 : decode b_M_solve 195 = .ok (.istore_n 2, 1) := by decide +kernel
theorem d_M_solve_196 : decode b_M_solve 196 = .ok (.iinc 3 1, 3) := by decide +kernel
theorem d_M_solve_199 : decode b_M_solve 199 = .ok (.goto (-22), 3) := by decide +kernel
theorem d_M_solve_202 : decode b_M_solve 202 = .ok (.iload_n 2, 1) := by decide +kernel
theorem d_M_solve_203 : decode b_M_solve 203 = .ok (.ireturn, 1) := by decide +kernel
