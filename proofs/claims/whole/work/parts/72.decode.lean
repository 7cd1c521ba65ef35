theorem d_M_brought_0 : decode b_M_brought 0 = .ok (.iconst 0, 1) := by decide +kernel
theorem d_M_brought_1 : decode b_M_brought 1 = .ok (.istore_n 3, 1) := by decide +kernel
theorem d_M_brought_2 : decode b_M_brought 2 = .ok (.iconst 0, 1) := by decide +kernel
theorem d_M_brought_3 : decode b_M_brought 3 = .ok (.istore 4, 2) := by decide +kernel
theorem d_M_brought_5 : decode b_M_brought 5 = .ok (.iload 4, 2) := by decide +kernel
theorem d_M_brought_7 : decode b_M_brought 7 = .ok (.iload_n 2, 1) := by decide +kernel
theorem d_M_brought_8 : decode b_M_brought 8 = .ok (.if_icmp .ge 52, 3) := by decide +kernel
theorem d_M_brought_11 : decode b_M_brought 11 = .ok (.iload_n 3, 1) := by decide +kernel
theorem d_M_brought_12 : decode b_M_brought 12 = .ok (.aload_n 0, 1) := by decide +kernel
theorem d_M_brought_13 : decode b_M_brought 13 = .ok (.iload 4, 2) := by decide +kernel
theorem d_M_brought_15 : decode b_M_brought 15 = .ok (.invokevirtual 92, 3) := by decide +kernel
theorem d_M_brought_18 : decode b_M_brought 18 = .ok (.ifCond .eq 33, 3) := by decide +kernel
theorem d_M_brought_21 : decode b_M_brought 21 = .ok (.aload_n 0, 1) := by decide +kernel
theorem d_M_brought_22 : decode b_M_brought 22 = .ok (.aload_n 0, 1) := by decide +kernel
theorem d_M_brought_23 : decode b_M_brought 23 = .ok (.getfield 31, 3) := by decide +kernel
theorem d_M_brought_26 : decode b_M_brought 26 = .ok (.iload 4, 2) := by decide +kernel
theorem d_M_brought_28 : decode b_M_brought 28 = .ok (.iaload, 1) := by decide +kernel
theorem d_M_brought_29 : decode b_M_brought 29 = .ok (.iload_n 1, 1) := by decide +kernel
theorem d_M_brought_30 : decode b_M_brought 30 = .ok (.invokevirtual 89, 3) := by decide +kernel
theorem d_M_brought_33 : decode b_M_brought 33 = .ok (.ifCond .eq 18, 3) := by decide +kernel
theorem d_M_brought_36 : decode b_M_brought 36 = .ok (.aload_n 0, 1) := by decide +kernel
theorem d_M_brought_37 : decode b_M_brought 37 = .ok (.getfield 50, 3) := by decide +kernel
theorem d_M_brought_40 : decode b_M_brought 40 = .ok (.aload_n 0, 1) := by decide +kernel
theorem d_M_brought_41 : decode b_M_brought 41 = .ok (.getfield 28, 3) := by decide +kernel
theorem d_M_brought_44 : decode b_M_brought 44 = .ok (.iload 4, 2) := by decide +kernel
theorem d_M_brought_46 : decode b_M_brought 46 = .ok (.iaload, 1) := by decide +kernel
theorem d_M_brought_47 : decode b_M_brought 47 = .ok (.iaload, 1) := by decide +kernel
theorem d_M_brought_48 : decode b_M_brought 48 = .ok (.goto 4, 3) := by decide +kernel
theorem d_M_brought_51 : decode b_M_brought 51 = .ok (.iconst 0, 1) := by decide +kernel
theorem d_M_brought_52 : decode b_M_brought 52 = .ok (.iadd, 1) := by decide +kernel
theorem d_M_brought_53 : decode b_M_brought 53 = .ok (.istore_n 3, 1) := by decide +kernel
theorem d_M_brought_54 : decode b_M_brought 54 = .ok (.iinc 4 1, 3) := by decide +kernel
theorem d_M_brought_57 : decode b_M_brought 57 = .ok (.goto (-52), 3) := by decide +kernel
theorem d_M_brought_60 : decode b_M_brought 60 = .ok (.iload_n 3, 1) := by decide +kernel
theorem d_M_brought_61 : decode b_M_brought 61 = .ok (.ireturn, 1) := by decide +kernel
theorem d_M_group_0 : decode b_M_group 0 = .ok (.aload_n 0, 1) := by decide +kernel
theorem d_M_group_1 : decode b_M_group 1 = .ok (.getfield 47, 3) := by decide +kernel
theorem d_M_group_4 : decode b_M_group 4 = .ok (.iconst 4, 1) := by decide +kernel
theorem d_M_group_5 : decode b_M_group 5 = .ok (.iload_n 1, 1) := by decide +kernel
theorem d_M_group_6 : decode b_M_group 6 = .ok (.imul, 1) := by decide +kernel
theorem d_M_group_7 : decode b_M_group 7 = .ok (.iload_n 2, 1) := by decide +kernel
theorem d_M_group_8 : decode b_M_group 8 = .ok (.iadd, 1) := by decide +kernel
theorem d_M_group_9 : decode b_M_group 9 = .ok (.baload, 1) := by decide +kernel
theorem d_M_group_10 : decode b_M_group 10 = .ok (.ifCond .eq 20, 3) := by decide +kernel
theorem d_M_group_13 : decode b_M_group 13 = .ok (.aload_n 0, 1) := by decide +kernel
theorem d_M_group_14 : decode b_M_group 14 = .ok (.getfield 47, 3) := by decide +kernel
theorem d_M_group_17 : decode b_M_group 17 = .ok (.iconst 4, 1) := by decide +kernel
theorem d_M_group_18 : decode b_M_group 18 = .ok (.iload_n 2, 1) := by decide +kernel
theorem d_M_group_19 : decode b_M_group 19 = .ok (.imul, 1) := by decide +kernel
theorem d_M_group_20 : decode b_M_group 20 = .ok (.iload_n 1, 1) := by decide +kernel
theorem d_M_group_21 : decode b_M_group 21 = .ok (.iadd, 1) := by decide +kernel
theorem d_M_group_22 : decode b_M_group 22 = .ok (.baload, 1) := by decide +kernel
theorem d_M_group_23 : decode b_M_group 23 = .ok (.ifCond .eq 7, 3) := by decide +kernel
theorem d_M_group_26 : decode b_M_group 26 = .ok (.iconst 1, 1) := by decide +kernel
theorem d_M_group_27 : decode b_M_group 27 = .ok (.goto 4, 3) := by decide +kernel
theorem d_M_group_30 : decode b_M_group 30 = .ok (.iconst 0, 1) := by decide +kernel
theorem d_M_group_31 : decode b_M_group 31 = .ok (.ireturn, 1) := by decide +kernel
theorem d_M_isOuter_0 : decode b_M_isOuter 0 = .ok (.aload_n 0, 1) := by decide +kernel
theorem d_M_isOuter_1 : decode b_M_isOuter 1 = .ok (.aload_n 0, 1) := by decide +kernel
theorem d_M_isOuter_2 : decode b_M_isOuter 2 = .ok (.getfield 28, 3) := by decide +kernel
theorem d_M_isOuter_5 : decode b_M_isOuter 5 = .ok (.iload_n 1, 1) := by decide +kernel
theorem d_M_isOuter_6 : decode b_M_isOuter 6 = .ok (.iaload, 1) := by decide +kernel
theorem d_M_isOuter_7 : decode b_M_isOuter 7 = .ok (.aload_n 0, 1) := by decide +kernel
theorem d_M_isOuter_8 : decode b_M_isOuter 8 = .ok (.getfield 31, 3) := by decide +kernel
theorem d_M_isOuter_11 : decode b_M_isOuter 11 = .ok (.iload_n 1, 1) := by decide +kernel
theorem d_M_isOuter_12 : decode b_M_isOuter 12 = .ok (.iaload, 1) := by decide +kernel
theorem d_M_isOuter_13 : decode b_M_isOuter 13 = .ok (.invokevirtual 89, 3) := by decide +kernel
theorem d_M_isOuter_16 : decode b_M_isOuter 16 = .ok (.ifCond .ne 7, 3) := by decide +kernel
theorem d_M_isOuter_19 : decode b_M_isOuter 19 = .ok (.iconst 1, 1) := by decide +kernel
theorem d_M_isOuter_20 : decode b_M_isOuter 20 = .ok (.goto 4, 3) := by decide +kernel
theorem d_M_isOuter_23 : decode b_M_isOuter 23 = .ok (.iconst 0, 1) := by decide +kernel
theorem d_M_isOuter_24 : decode b_M_isOuter 24 = .ok (.ireturn, 1) := by decide +kernel
theorem d_M_pass_0 : decode b_M_pass 0 = .ok (.iload_n 1, 1) := by decide +kernel
theorem d_M_pass_1 : decode b_M_pass 1 = .ok (.aload_n 0, 1) := by decide +kernel
theorem d_M_pass_2 : decode b_M_pass 2 = .ok (.getfield 86, 3) := by decide +kernel
theorem d_M_pass_5 : decode b_M_pass 5 = .ok (.iconst 1, 1) := by decide +kernel
theorem d_M_pass_6 : decode b_M_pass 6 = .ok (.isub, 1) := by decide +kernel
theorem d_M_pass_7 : decode b_M_pass 7 = .ok (.invokestatic 71, 3) := by decide +kernel
theorem d_M_pass_10 : decode b_M_pass 10 = .ok (.ifCond .eq 21, 3) := by decide +kernel
theorem d_M_pass_13 : decode b_M_pass 13 = .ok (.iload_n 2, 1) := by decide +kernel
theorem d_M_pass_14 : decode b_M_pass 14 = .ok (.bipush 15, 2) := by decide +kernel
theorem d_M_pass_16 : decode b_M_pass 16 = .ok (.invokestatic 71, 3) := by decide +kernel
theorem d_M_pass_19 : decode b_M_pass 19 = .ok (.ifCond .eq 12, 3) := by decide +kernel
theorem d_M_pass_22 : decode b_M_pass 22 = .ok (.iload_n 3, 1) := by decide +kernel
theorem d_M_pass_23 : decode b_M_pass 23 = .ok (.bipush 15, 2) := by decide +kernel
theorem d_M_pass_25 : decode b_M_pass 25 = .ok (.invokestatic 71, 3) := by decide +kernel
theorem d_M_pass_28 : decode b_M_pass 28 = .ok (.ifCond .ne 5, 3) := by decide +kernel
theorem d_M_pass_31 : decode b_M_pass 31 = .ok (.iconst (-1), 1) := by decide +kernel
theorem d_M_pass_32 : decode b_M_pass 32 = .ok (.ireturn, 1) := by decide +kernel
theorem d_M_pass_33 : decode b_M_pass 33 = .ok (.iload 4, 2) := by decide +kernel
theorem d_M_pass_35 : decode b_M_pass 35 = .ok (.ifCond .eq 12, 3) := by decide +kernel
theorem d_M_pass_38 : decode b_M_pass 38 = .ok (.aload_n 0, 1) := by decide +kernel
theorem d_M_pass_39 : decode b_M_pass 39 = .ok (.getfield 31, 3) := by decide +kernel
theorem d_M_pass_42 : decode b_M_pass 42 = .ok (.iload_n 1, 1) := by decide +kernel
theorem d_M_pass_43 : decode b_M_pass 43 = .ok (.iaload, 1) := by decide +kernel
theorem d_M_pass_44 : decode b_M_pass 44 = .ok (.goto 9, 3) := by decide +kernel
theorem d_M_pass_47 : decode b_M_pass 47 = .ok (.aload_n 0, 1) := by decide +kernel
theorem d_M_pass_48 : decode b_M_pass 48 = .ok (.getfield 28, 3) := by decide +kernel
theorem d_M_pass_51 : decode b_M_pass 51 = .ok (.iload_n 1, 1) := by decide +kernel
theorem d_M_pass_52 : decode b_M_pass 52 = .ok (.iaload, 1) := by decide +kernel
theorem d_M_pass_53 : decode b_M_pass 53 = .ok (.istore 5, 2) := by decide +kernel
theorem d_M_pass_55 : decode b_M_pass 55 = .ok (.iload 4, 2) := by decide +kernel
theorem d_M_pass_57 : decode b_M_pass 57 = .ok (.ifCond .eq 12, 3) := by decide +kernel
theorem d_M_pass_60 : decode b_M_pass 60 = .ok (.aload_n 0, 1) := by decide +kernel
theorem d_M_pass_61 : decode b_M_pass 61 = .ok (.getfield 28, 3) := by decide +kernel
theorem d_M_pass_64 : decode b_M_pass 64 = .ok (.iload_n 1, 1) := by decide +kernel
theorem d_M_pass_65 : decode b_M_pass 65 = .ok (.iaload, 1) := by decide +kernel
theorem d_M_pass_66 : decode b_M_pass 66 = .ok (.goto 9, 3) := by decide +kernel
theorem d_M_pass_69 : decode b_M_pass 69 = .ok (.aload_n 0, 1) := by decide +kernel
theorem d_M_pass_70 : decode b_M_pass 70 = .ok (.getfield 31, 3) := by decide +kernel
theorem d_M_pass_73 : decode b_M_pass 73 = .ok (.iload_n 1, 1) := by decide +kernel
theorem d_M_pass_74 : decode b_M_pass 74 = .ok (.iaload, 1) := by decide +kernel
theorem d_M_pass_75 : decode b_M_pass 75 = .ok (.istore 6, 2) := by decide +kernel
theorem d_M_pass_77 : decode b_M_pass 77 = .ok (.iload_n 3, 1) := by decide +kernel
theorem d_M_pass_78 : decode b_M_pass 78 = .ok (.iconst 4, 1) := by decide +kernel
theorem d_M_pass_79 : decode b_M_pass 79 = .ok (.idiv, 1) := by decide +kernel
theorem d_M_pass_80 : decode b_M_pass 80 = .ok (.iload 5, 2) := by decide +kernel
theorem d_M_pass_82 : decode b_M_pass 82 = .ok (.if_icmp .ne 11, 3) := by decide +kernel
theorem d_M_pass_85 : decode b_M_pass 85 = .ok (.iload_n 2, 1) := by decide +kernel
theorem d_M_pass_86 : decode b_M_pass 86 = .ok (.iconst 4, 1) := by decide +kernel
theorem d_M_pass_87 : decode b_M_pass 87 = .ok (.idiv, 1) := by decide +kernel
theorem d_M_pass_88 : decode b_M_pass 88 = .ok (.iload 6, 2) := by decide +kernel
theorem d_M_pass_90 : decode b_M_pass 90 = .ok (.if_icmp .eq 5, 3) := by decide +kernel
theorem d_M_pass_93 : decode b_M_pass 93 = .ok (.iconst (-1), 1) := by decide +kernel
theorem d_M_pass_94 : decode b_M_pass 94 = .ok (.ireturn, 1) := by decide +kernel
theorem d_M_pass_95 : decode b_M_pass 95 = .ok (.aload_n 0, 1) := by decide +kernel
theorem d_M_pass_96 : decode b_M_pass 96 = .ok (.getfield 34, 3) := by decide +kernel
theorem d_M_pass_99 : decode b_M_pass 99 = .ok (.iload_n 1, 1) := by decide +kernel
theorem d_M_pass_100 : decode b_M_pass 100 = .ok (.iaload, 1) := by decide +kernel
theorem d_M_pass_101 : decode b_M_pass 101 = .ok (.iconst 4, 1) := by decide +kernel
theorem d_M_pass_102 : decode b_M_pass 102 = .ok (.if_icmp .ne 6, 3) := by decide +kernel
theorem d_M_pass_105 : decode b_M_pass 105 = .ok (.bipush (-2), 2) := by decide +kernel
theorem d_M_pass_107 : decode b_M_pass 107 = .ok (.ireturn, 1) := by decide +kernel
theorem d_M_pass_108 : decode b_M_pass 108 = .ok (.iconst 4, 1) := by decide +kernel
theorem d_M_pass_109 : decode b_M_pass 109 = .ok (.iload_n 1, 1) := by decide +kernel
theorem d_M_pass_110 : decode b_M_pass 110 = .ok (.imul, 1) := by decide +kernel
theorem d_M_pass_111 : decode b_M_pass 111 = .ok (.aload_n 0, 1) := by decide +kernel
theorem d_M_pass_112 : decode b_M_pass 112 = .ok (.getfield 34, 3) := by decide +kernel
theorem d_M_pass_115 : decode b_M_pass 115 = .ok (.iload_n 1, 1) := by decide +kernel
theorem d_M_pass_116 : decode b_M_pass 116 = .ok (.iaload, 1) := by decide +kernel
theorem d_M_pass_117 : decode b_M_pass 117 = .ok (.iadd, 1) := by decide +kernel
theorem d_M_pass_118 : decode b_M_pass 118 = .ok (.istore 7, 2) := by decide +kernel
theorem d_M_pass_120 : decode b_M_pass 120 = .ok (.aload_n 0, 1) := by decide +kernel
theorem d_M_pass_121 : decode b_M_pass 121 = .ok (.getfield 37, 3) := by decide +kernel
theorem d_M_pass_124 : decode b_M_pass 124 = .ok (.iload 7, 2) := by decide +kernel
theorem d_M_pass_126 : decode b_M_pass 126 = .ok (.iload_n 2, 1) := by decide +kernel
theorem d_M_pass_127 : decode b_M_pass 127 = .ok (.iastore, 1) := by decide +kernel
theorem d_M_pass_128 : decode b_M_pass 128 = .ok (.aload_n 0, 1) := by decide +kernel
theorem d_M_pass_129 : decode b_M_pass 129 = .ok (.getfield 40, 3) := by decide +kernel
theorem d_M_pass_132 : decode b_M_pass 132 = .ok (.iload 7, 2) := by decide +kernel
theorem d_M_pass_134 : decode b_M_pass 134 = .ok (.iload_n 3, 1) := by decide +kernel
theorem d_M_pass_135 : decode b_M_pass 135 = .ok (.iastore, 1) := by decide +kernel
theorem d_M_pass_136 : decode b_M_pass 136 = .ok (.aload_n 0, 1) := by decide +kernel
theorem d_M_pass_137 : decode b_M_pass 137 = .ok (.getfield 43, 3) := by decide +kernel
theorem d_M_pass_140 : decode b_M_pass 140 = .ok (.iload 7, 2) := by decide +kernel
theorem d_M_pass_142 : decode b_M_pass 142 = .ok (.iload 4, 2) := by decide +kernel
theorem d_M_pass_144 : decode b_M_pass 144 = .ok (.bastore, 1) := by decide +kernel
theorem d_M_pass_145 : decode b_M_pass 145 = .ok (.aload_n 0, 1) := by decide +kernel
theorem d_M_pass_146 : decode b_M_pass 146 = .ok (.getfield 34, 3) := by decide +kernel
theorem d_M_pass_149 : decode b_M_pass 149 = .ok (.iload_n 1, 1) := by decide +kernel
theorem d_M_pass_150 : decode b_M_pass 150 = .ok (.dup2, 1) := by decide +kernel
theorem d_M_pass_151 : decode b_M_pass 151 = .ok (.iaload, 1) := by decide +kernel
theorem d_M_pass_152 : decode b_M_pass 152 = .ok (.iconst 1, 1) := by decide +kernel
theorem d_M_pass_153 : decode b_M_pass 153 = .ok (.iadd, 1) := by decide +kernel
theorem d_M_pass_154 : decode b_M_pass 154 = .ok (.iastore, 1) := by decide +kernel
theorem d_M_pass_155 : decode b_M_pass 155 = .ok (.aload_n 0, 1) := by decide +kernel
theorem d_M_pass_156 : decode b_M_pass 156 = .ok (.getfield 34, 3) := by decide +kernel
theorem d_M_pass_159 : decode b_M_pass 159 = .ok (.iload_n 1, 1) := by decide +kernel
theorem d_M_pass_160 : decode b_M_pass 160 = .ok (.iaload, 1) := by decide +kernel
theorem d_M_pass_161 : decode b_M_pass 161 = .ok (.ireturn, 1) := by decide +kernel
theorem d_P_nodes_0 : decode b_P_nodes 0 = .ok (.iload_n 1, 1) := by decide +kernel
theorem d_P_nodes_1 : decode b_P_nodes 1 = .ok (.lookupswitch 73 #[(0, 27), (1, 50)], 27) := by decide +kernel
theorem d_P_nodes_28 : decode b_P_nodes 28 = .ok (.aload_n 0, 1) := by decide +kernel
theorem d_P_nodes_29 : decode b_P_nodes 29 = .ok (.getfield 26, 3) := by decide +kernel
theorem d_P_nodes_32 : decode b_P_nodes 32 = .ok (.aload_n 0, 1) := by decide +kernel
theorem d_P_nodes_33 : decode b_P_nodes 33 = .ok (.getfield 33, 3) := by decide +kernel
theorem d_P_nodes_36 : decode b_P_nodes 36 = .ok (.aload_n 0, 1) := by decide +kernel
theorem d_P_nodes_37 : decode b_P_nodes 37 = .ok (.getfield 37, 3) := by decide +kernel
theorem d_P_nodes_40 : decode b_P_nodes 40 = .ok (.invokevirtual 103, 3) := by decide +kernel
theorem d_P_nodes_43 : decode b_P_nodes 43 = .ok (.aload_n 0, 1) := by decide +kernel
theorem d_P_nodes_44 : decode b_P_nodes 44 = .ok (.getfield 33, 3) := by decide +kernel
theorem d_P_nodes_47 : decode b_P_nodes 47 = .ok (.invokevirtual 107, 3) := by decide +kernel
theorem d_P_nodes_50 : decode b_P_nodes 50 = .ok (.ireturn, 1) := by decide +kernel
theorem d_P_nodes_51 : decode b_P_nodes 51 = .ok (.aload_n 0, 1) := by decide +kernel
theorem d_P_nodes_52 : decode b_P_nodes 52 = .ok (.getfield 26, 3) := by decide +kernel
theorem d_P_nodes_55 : decode b_P_nodes 55 = .ok (.aload_n 0, 1) := by decide +kernel
theorem d_P_nodes_56 : decode b_P_nodes 56 = .ok (.getfield 33, 3) := by decide +kernel
theorem d_P_nodes_59 : decode b_P_nodes 59 = .ok (.aload_n 0, 1) := by decide +kernel
theorem d_P_nodes_60 : decode b_P_nodes 60 = .ok (.getfield 37, 3) := by decide +kernel
theorem d_P_nodes_63 : decode b_P_nodes 63 = .ok (.invokevirtual 110, 3) := by decide +kernel
theorem d_P_nodes_66 : decode b_P_nodes 66 = .ok (.aload_n 0, 1) := by decide +kernel
theorem d_P_nodes_67 : decode b_P_nodes 67 = .ok (.getfield 33, 3) := by decide +kernel
theorem d_P_nodes_70 : decode b_P_nodes 70 = .ok (.invokevirtual 107, 3) := by decide +kernel
theorem d_P_nodes_73 : decode b_P_nodes 73 = .ok (.ireturn, 1) := by decide +kernel
theorem d_P_nodes_74 : decode b_P_nodes 74 = .ok (.iconst (-1), 1) := by decide +kernel
theorem d_P_nodes_75 : decode b_P_nodes 75 = .ok (.ireturn, 1) := by decide +kernel
