theorem d_M_nodes_0 : decode b_M_nodes 0 = .ok (.iload_n 1, 1) := by decide +kernel
theorem d_M_nodes_1 : decode b_M_nodes 1 = .ok (.iconst 1, 1) := by decide +kernel
theorem d_M_nodes_2 : decode b_M_nodes 2 = .ok (.invokestatic 71, 3) := by decide +kernel
theorem d_M_nodes_5 : decode b_M_nodes 5 = .ok (.ifCond .ne 5, 3) := by decide +kernel
theorem d_M_nodes_8 : decode b_M_nodes 8 = .ok (.iconst (-1), 1) := by decide +kernel
theorem d_M_nodes_9 : decode b_M_nodes 9 = .ok (.ireturn, 1) := by decide +kernel
theorem d_M_nodes_10 : decode b_M_nodes 10 = .ok (.aload_n 0, 1) := by decide +kernel
theorem d_M_nodes_11 : decode b_M_nodes 11 = .ok (.iload_n 1, 1) := by decide +kernel
theorem d_M_nodes_12 : decode b_M_nodes 12 = .ok (.invokevirtual 149, 3) := by decide +kernel
theorem d_M_nodes_15 : decode b_M_nodes 15 = .ok (.iload_n 1, 1) := by decide +kernel
theorem d_M_nodes_16 : decode b_M_nodes 16 = .ok (.ifCond .ne 9, 3) := by decide +kernel
theorem d_M_nodes_19 : decode b_M_nodes 19 = .ok (.sipush 1024, 3) := by decide +kernel
theorem d_M_nodes_22 : decode b_M_nodes 22 = .ok (.goto 6, 3) := by decide +kernel
theorem d_M_nodes_25 : decode b_M_nodes 25 = .ok (.sipush 128, 3) := by decide +kernel
theorem d_M_nodes_28 : decode b_M_nodes 28 = .ok (.istore_n 2, 1) := by decide +kernel
theorem d_M_nodes_29 : decode b_M_nodes 29 = .ok (.iconst 0, 1) := by decide +kernel
theorem d_M_nodes_30 : decode b_M_nodes 30 = .ok (.istore_n 3, 1) := by decide +kernel
theorem d_M_nodes_31 : decode b_M_nodes 31 = .ok (.iload_n 2, 1) := by decide +kernel
theorem d_M_nodes_32 : decode b_M_nodes 32 = .ok (.istore 4, 2) := by decide +kernel
theorem d_M_nodes_34 : decode b_M_nodes 34 = .ok (.iload 4, 2) := by decide +kernel
theorem d_M_nodes_36 : decode b_M_nodes 36 = .ok (.iconst 1, 1) := by decide +kernel
theorem d_M_nodes_37 : decode b_M_nodes 37 = .ok (.if_icmp .le 116, 3) := by decide +kernel
theorem d_M_nodes_40 : decode b_M_nodes 40 = .ok (.iconst 0, 1) := by decide +kernel
theorem d_M_nodes_41 : decode b_M_nodes 41 = .ok (.istore 5, 2) := by decide +kernel
theorem d_M_nodes_43 : decode b_M_nodes 43 = .ok (.iload 5, 2) := by decide +kernel
theorem d_M_nodes_45 : decode b_M_nodes 45 = .ok (.iload_n 2, 1) := by decide +kernel
theorem d_M_nodes_46 : decode b_M_nodes 46 = .ok (.if_icmp .ge 98, 3) := by decide +kernel
theorem d_M_nodes_49 : decode b_M_nodes 49 = .ok (.aload_n 0, 1) := by decide +kernel
theorem d_M_nodes_50 : decode b_M_nodes 50 = .ok (.iload 5, 2) := by decide +kernel
theorem d_M_nodes_52 : decode b_M_nodes 52 = .ok (.iload 5, 2) := by decide +kernel
theorem d_M_nodes_54 : decode b_M_nodes 54 = .ok (.iload 4, 2) := by decide +kernel
theorem d_M_nodes_56 : decode b_M_nodes 56 = .ok (.iconst 2, 1) := by decide +kernel
theorem d_M_nodes_57 : decode b_M_nodes 57 = .ok (.idiv, 1) := by decide +kernel
theorem d_M_nodes_58 : decode b_M_nodes 58 = .ok (.iadd, 1) := by decide +kernel
theorem d_M_nodes_59 : decode b_M_nodes 59 = .ok (.iload 4, 2) := by decide +kernel
theorem d_M_nodes_61 : decode b_M_nodes 61 = .ok (.iconst 2, 1) := by decide +kernel
theorem d_M_nodes_62 : decode b_M_nodes 62 = .ok (.idiv, 1) := by decide +kernel
theorem d_M_nodes_63 : decode b_M_nodes 63 = .ok (.invokevirtual 153, 3) := by decide +kernel
theorem d_M_nodes_66 : decode b_M_nodes 66 = .ok (.ifCond .ne 7, 3) := by decide +kernel
theorem d_M_nodes_69 : decode b_M_nodes 69 = .ok (.iconst 1, 1) := by decide +kernel
theorem d_M_nodes_70 : decode b_M_nodes 70 = .ok (.goto 4, 3) := by decide +kernel
theorem d_M_nodes_73 : decode b_M_nodes 73 = .ok (.iconst 0, 1) := by decide +kernel
theorem d_M_nodes_74 : decode b_M_nodes 74 = .ok (.istore 6, 2) := by decide +kernel
theorem d_M_nodes_76 : decode b_M_nodes 76 = .ok (.iconst 0, 1) := by decide +kernel
theorem d_M_nodes_77 : decode b_M_nodes 77 = .ok (.istore 7, 2) := by decide +kernel
theorem d_M_nodes_79 : decode b_M_nodes 79 = .ok (.iload 7, 2) := by decide +kernel
theorem d_M_nodes_81 : decode b_M_nodes 81 = .ok (.iload 5, 2) := by decide +kernel
theorem d_M_nodes_83 : decode b_M_nodes 83 = .ok (.if_icmp .ge 38, 3) := by decide +kernel
theorem d_M_nodes_86 : decode b_M_nodes 86 = .ok (.iload 6, 2) := by decide +kernel
theorem d_M_nodes_88 : decode b_M_nodes 88 = .ok (.ifCond .eq 33, 3) := by decide +kernel
theorem d_M_nodes_91 : decode b_M_nodes 91 = .ok (.aload_n 0, 1) := by decide +kernel
theorem d_M_nodes_92 : decode b_M_nodes 92 = .ok (.iload 5, 2) := by decide +kernel
theorem d_M_nodes_94 : decode b_M_nodes 94 = .ok (.iload 7, 2) := by decide +kernel
theorem d_M_nodes_96 : decode b_M_nodes 96 = .ok (.iload 4, 2) := by decide +kernel
theorem d_M_nodes_98 : decode b_M_nodes 98 = .ok (.invokevirtual 153, 3) := by decide +kernel
theorem d_M_nodes_101 : decode b_M_nodes 101 = .ok (.ifCond .ne 7, 3) := by decide +kernel
theorem d_M_nodes_104 : decode b_M_nodes 104 = .ok (.iconst 1, 1) := by decide +kernel
theorem d_M_nodes_105 : decode b_M_nodes 105 = .ok (.goto 4, 3) := by decide +kernel
theorem d_M_nodes_108 : decode b_M_nodes 108 = .ok (.iconst 0, 1) := by decide +kernel
theorem d_M_nodes_109 : decode b_M_nodes 109 = .ok (.istore 6, 2) := by decide +kernel
theorem d_M_nodes_111 : decode b_M_nodes 111 = .ok (.iload 7, 2) := by decide +kernel
theorem d_M_nodes_113 : decode b_M_nodes 113 = .ok (.iload 4, 2) := by decide +kernel
theorem d_M_nodes_115 : decode b_M_nodes 115 = .ok (.iadd, 1) := by decide +kernel
theorem d_M_nodes_116 : decode b_M_nodes 116 = .ok (.istore 7, 2) := by decide +kernel
theorem d_M_nodes_118 : decode b_M_nodes 118 = .ok (.goto (-39), 3) := by decide +kernel
theorem d_M_nodes_121 : decode b_M_nodes 121 = .ok (.iload_n 3, 1) := by decide +kernel
theorem d_M_nodes_122 : decode b_M_nodes 122 = .ok (.iload 6, 2) := by decide +kernel
theorem d_M_nodes_124 : decode b_M_nodes 124 = .ok (.ifCond .eq 7, 3) := by decide +kernel
theorem d_M_nodes_127 : decode b_M_nodes 127 = .ok (.iconst 1, 1) := by decide +kernel
theorem d_M_nodes_128 : decode b_M_nodes 128 = .ok (.goto 4, 3) := by decide +kernel
theorem d_M_nodes_131 : decode b_M_nodes 131 = .ok (.iconst 0, 1) := by decide +kernel
theorem d_M_nodes_132 : decode b_M_nodes 132 = .ok (.iadd, 1) := by decide +kernel
theorem d_M_nodes_133 : decode b_M_nodes 133 = .ok (.istore_n 3, 1) := by decide +kernel
theorem d_M_nodes_134 : decode b_M_nodes 134 = .ok (.iload 5, 2) := by decide +kernel
theorem d_M_nodes_136 : decode b_M_nodes 136 = .ok (.iload 4, 2) := by decide +kernel
theorem d_M_nodes_138 : decode b_M_nodes 138 = .ok (.iadd, 1) := by decide +kernel
theorem d_M_nodes_139 : decode b_M_nodes 139 = .ok (.istore 5, 2) := by decide +kernel
theorem d_M_nodes_141 : decode b_M_nodes 141 = .ok (.goto (-98), 3) := by decide +kernel
theorem d_M_nodes_144 : decode b_M_nodes 144 = .ok (.iload 4, 2) := by decide +kernel
theorem d_M_nodes_146 : decode b_M_nodes 146 = .ok (.iconst 2, 1) := by decide +kernel
theorem d_M_nodes_147 : decode b_M_nodes 147 = .ok (.idiv, 1) := by decide +kernel
theorem d_M_nodes_148 : decode b_M_nodes 148 = .ok (.istore 4, 2) := by decide +kernel
theorem d_M_nodes_150 : decode b_M_nodes 150 = .ok (.goto (-116), 3) := by decide +kernel
theorem d_M_nodes_153 : decode b_M_nodes 153 = .ok (.iload_n 3, 1) := by decide +kernel
theorem d_M_nodes_154 : decode b_M_nodes 154 = .ok (.ireturn, 1) := by decide +kernel
