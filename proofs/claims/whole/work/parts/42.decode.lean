theorem d_N_keepReckoned_0 : decode b_N_keepReckoned 0 = .ok (.aload_n 0, 1) := by decide +kernel
theorem d_N_keepReckoned_1 : decode b_N_keepReckoned 1 = .ok (.getfield 25, 3) := by decide +kernel
theorem d_N_keepReckoned_4 : decode b_N_keepReckoned 4 = .ok (.iconst 0, 1) := by decide +kernel
theorem d_N_keepReckoned_5 : decode b_N_keepReckoned 5 = .ok (.aload_n 0, 1) := by decide +kernel
theorem d_N_keepReckoned_6 : decode b_N_keepReckoned 6 = .ok (.getfield 9, 3) := by decide +kernel
theorem d_N_keepReckoned_9 : decode b_N_keepReckoned 9 = .ok (.iconst 0, 1) := by decide +kernel
theorem d_N_keepReckoned_10 : decode b_N_keepReckoned 10 = .ok (.iconst 4, 1) := by decide +kernel
theorem d_N_keepReckoned_11 : decode b_N_keepReckoned 11 = .ok (.invokestatic 74, 3) := by decide +kernel
theorem d_N_keepReckoned_14 : decode b_N_keepReckoned 14 = .ok (.aload_n 0, 1) := by decide +kernel
theorem d_N_keepReckoned_15 : decode b_N_keepReckoned 15 = .ok (.aload_n 1, 1) := by decide +kernel
theorem d_N_keepReckoned_16 : decode b_N_keepReckoned 16 = .ok (.getfield 44, 3) := by decide +kernel
theorem d_N_keepReckoned_19 : decode b_N_keepReckoned 19 = .ok (.putfield 18, 3) := by decide +kernel
theorem d_N_keepReckoned_22 : decode b_N_keepReckoned 22 = .ok (.iconst 0, 1) := by decide +kernel
theorem d_N_keepReckoned_23 : decode b_N_keepReckoned 23 = .ok (.istore_n 2, 1) := by decide +kernel
theorem d_N_keepReckoned_24 : decode b_N_keepReckoned 24 = .ok (.iload_n 2, 1) := by decide +kernel
theorem d_N_keepReckoned_25 : decode b_N_keepReckoned 25 = .ok (.aload_n 0, 1) := by decide +kernel
theorem d_N_keepReckoned_26 : decode b_N_keepReckoned 26 = .ok (.getfield 18, 3) := by decide +kernel
theorem d_N_keepReckoned_29 : decode b_N_keepReckoned 29 = .ok (.if_icmp .ge 42, 3) := by decide +kernel
theorem d_N_keepReckoned_32 : decode b_N_keepReckoned 32 = .ok (.aload_n 0, 1) := by decide +kernel
theorem d_N_keepReckoned_33 : decode b_N_keepReckoned 33 = .ok (.aload_n 1, 1) := by decide +kernel
theorem d_N_keepReckoned_34 : decode b_N_keepReckoned 34 = .ok (.iload_n 2, 1) := by decide +kernel
theorem d_N_keepReckoned_35 : decode b_N_keepReckoned 35 = .ok (.invokevirtual 67, 3) := by decide +kernel
theorem d_N_keepReckoned_38 : decode b_N_keepReckoned 38 = .ok (.istore_n 3, 1) := by decide +kernel
theorem d_N_keepReckoned_39 : decode b_N_keepReckoned 39 = .ok (.aload_n 0, 1) := by decide +kernel
theorem d_N_keepReckoned_40 : decode b_N_keepReckoned 40 = .ok (.getfield 15, 3) := by decide +kernel
theorem d_N_keepReckoned_43 : decode b_N_keepReckoned 43 = .ok (.iload_n 2, 1) := by decide +kernel
theorem d_N_keepReckoned_44 : decode b_N_keepReckoned 44 = .ok (.iload_n 3, 1) := by decide +kernel
theorem d_N_keepReckoned_45 : decode b_N_keepReckoned 45 = .ok (.ifCond .eq 18, 3) := by decide +kernel
theorem d_N_keepReckoned_48 : decode b_N_keepReckoned 48 = .ok (.aload_n 0, 1) := by decide +kernel
theorem d_N_keepReckoned_49 : decode b_N_keepReckoned 49 = .ok (.aload_n 1, 1) := by decide +kernel
theorem d_N_keepReckoned_50 : decode b_N_keepReckoned 50 = .ok (.iload_n 2, 1) := by decide +kernel
theorem d_N_keepReckoned_51 : decode b_N_keepReckoned 51 = .ok (.aload_n 1, 1) := by decide +kernel
theorem d_N_keepReckoned_52 : decode b_N_keepReckoned 52 = .ok (.getfield 50, 3) := by decide +kernel
theorem d_N_keepReckoned_55 : decode b_N_keepReckoned 55 = .ok (.iload_n 2, 1) := by decide +kernel
theorem d_N_keepReckoned_56 : decode b_N_keepReckoned 56 = .ok (.iaload, 1) := by decide +kernel
theorem d_N_keepReckoned_57 : decode b_N_keepReckoned 57 = .ok (.invokevirtual 57, 3) := by decide +kernel
theorem d_N_keepReckoned_60 : decode b_N_keepReckoned 60 = .ok (.goto 4, 3) := by decide +kernel
theorem d_N_keepReckoned_63 : decode b_N_keepReckoned 63 = .ok (.iconst 0, 1) := by decide +kernel
theorem d_N_keepReckoned_64 : decode b_N_keepReckoned 64 = .ok (.iastore, 1) := by decide +kernel
theorem d_N_keepReckoned_65 : decode b_N_keepReckoned 65 = .ok (.iinc 2 1, 3) := by decide +kernel
theorem d_N_keepReckoned_68 : decode b_N_keepReckoned 68 = .ok (.goto (-44), 3) := by decide +kernel
theorem d_N_keepReckoned_71 : decode b_N_keepReckoned 71 = .ok (.return_, 1) := by decide +kernel
theorem d_N_reckonCounts_0 : decode b_N_reckonCounts 0 = .ok (.aload_n 0, 1) := by decide +kernel
theorem d_N_reckonCounts_1 : decode b_N_reckonCounts 1 = .ok (.getfield 25, 3) := by decide +kernel
theorem d_N_reckonCounts_4 : decode b_N_reckonCounts 4 = .ok (.iconst 1, 1) := by decide +kernel
theorem d_N_reckonCounts_5 : decode b_N_reckonCounts 5 = .ok (.invokestatic 28, 3) := by decide +kernel
theorem d_N_reckonCounts_8 : decode b_N_reckonCounts 8 = .ok (.iconst 0, 1) := by decide +kernel
theorem d_N_reckonCounts_9 : decode b_N_reckonCounts 9 = .ok (.istore_n 2, 1) := by decide +kernel
theorem d_N_reckonCounts_10 : decode b_N_reckonCounts 10 = .ok (.iload_n 2, 1) := by decide +kernel
theorem d_N_reckonCounts_11 : decode b_N_reckonCounts 11 = .ok (.iconst 4, 1) := by decide +kernel
theorem d_N_reckonCounts_12 : decode b_N_reckonCounts 12 = .ok (.if_icmp .ge 42, 3) := by decide +kernel
theorem d_N_reckonCounts_15 : decode b_N_reckonCounts 15 = .ok (.iconst 0, 1) := by decide +kernel
theorem d_N_reckonCounts_16 : decode b_N_reckonCounts 16 = .ok (.istore_n 3, 1) := by decide +kernel
theorem d_N_reckonCounts_17 : decode b_N_reckonCounts 17 = .ok (.iload_n 3, 1) := by decide +kernel
theorem d_N_reckonCounts_18 : decode b_N_reckonCounts 18 = .ok (.iconst 4, 1) := by decide +kernel
theorem d_N_reckonCounts_19 : decode b_N_reckonCounts 19 = .ok (.if_icmp .ge 29, 3) := by decide +kernel
theorem d_N_reckonCounts_22 : decode b_N_reckonCounts 22 = .ok (.aload_n 0, 1) := by decide +kernel
theorem d_N_reckonCounts_23 : decode b_N_reckonCounts 23 = .ok (.getfield 25, 3) := by decide +kernel
theorem d_N_reckonCounts_26 : decode b_N_reckonCounts 26 = .ok (.iload_n 3, 1) := by decide +kernel
theorem d_N_reckonCounts_27 : decode b_N_reckonCounts 27 = .ok (.iconst 1, 1) := by decide +kernel
theorem d_N_reckonCounts_28 : decode b_N_reckonCounts 28 = .ok (.aload_n 0, 1) := by decide +kernel
theorem d_N_reckonCounts_29 : decode b_N_reckonCounts 29 = .ok (.aload_n 1, 1) := by decide +kernel
theorem d_N_reckonCounts_30 : decode b_N_reckonCounts 30 = .ok (.aload_n 1, 1) := by decide +kernel
theorem d_N_reckonCounts_31 : decode b_N_reckonCounts 31 = .ok (.getfield 44, 3) := by decide +kernel
theorem d_N_reckonCounts_34 : decode b_N_reckonCounts 34 = .ok (.iload_n 3, 1) := by decide +kernel
theorem d_N_reckonCounts_35 : decode b_N_reckonCounts 35 = .ok (.invokevirtual 57, 3) := by decide +kernel
theorem d_N_reckonCounts_38 : decode b_N_reckonCounts 38 = .ok (.invokestatic 61, 3) := by decide +kernel
theorem d_N_reckonCounts_41 : decode b_N_reckonCounts 41 = .ok (.iastore, 1) := by decide +kernel
theorem d_N_reckonCounts_42 : decode b_N_reckonCounts 42 = .ok (.iinc 3 1, 3) := by decide +kernel
theorem d_N_reckonCounts_45 : decode b_N_reckonCounts 45 = .ok (.goto (-28), 3) := by decide +kernel
theorem d_N_reckonCounts_48 : decode b_N_reckonCounts 48 = .ok (.iinc 2 1, 3) := by decide +kernel
theorem d_N_reckonCounts_51 : decode b_N_reckonCounts 51 = .ok (.goto (-41), 3) := by decide +kernel
theorem d_N_reckonCounts_54 : decode b_N_reckonCounts 54 = .ok (.return_, 1) := by decide +kernel
theorem d_N_renew_0 : decode b_N_renew 0 = .ok (.aload_n 0, 1) := by decide +kernel
theorem d_N_renew_1 : decode b_N_renew 1 = .ok (.aload_n 1, 1) := by decide +kernel
theorem d_N_renew_2 : decode b_N_renew 2 = .ok (.invokevirtual 34, 3) := by decide +kernel
theorem d_N_renew_5 : decode b_N_renew 5 = .ok (.aload_n 0, 1) := by decide +kernel
theorem d_N_renew_6 : decode b_N_renew 6 = .ok (.aload_n 1, 1) := by decide +kernel
theorem d_N_renew_7 : decode b_N_renew 7 = .ok (.invokevirtual 38, 3) := by decide +kernel
theorem d_N_renew_10 : decode b_N_renew 10 = .ok (.iconst 0, 1) := by decide +kernel
theorem d_N_renew_11 : decode b_N_renew 11 = .ok (.istore_n 2, 1) := by decide +kernel
theorem d_N_renew_12 : decode b_N_renew 12 = .ok (.iload_n 2, 1) := by decide +kernel
theorem d_N_renew_13 : decode b_N_renew 13 = .ok (.iconst 4, 1) := by decide +kernel
theorem d_N_renew_14 : decode b_N_renew 14 = .ok (.if_icmp .ge 22, 3) := by decide +kernel
theorem d_N_renew_17 : decode b_N_renew 17 = .ok (.aload_n 0, 1) := by decide +kernel
theorem d_N_renew_18 : decode b_N_renew 18 = .ok (.getfield 25, 3) := by decide +kernel
theorem d_N_renew_21 : decode b_N_renew 21 = .ok (.iload_n 2, 1) := by decide +kernel
theorem d_N_renew_22 : decode b_N_renew 22 = .ok (.iaload, 1) := by decide +kernel
theorem d_N_renew_23 : decode b_N_renew 23 = .ok (.bipush 8, 2) := by decide +kernel
theorem d_N_renew_25 : decode b_N_renew 25 = .ok (.if_icmp .le 5, 3) := by decide +kernel
theorem d_N_renew_28 : decode b_N_renew 28 = .ok (.iconst 0, 1) := by decide +kernel
theorem d_N_renew_29 : decode b_N_renew 29 = .ok (.ireturn, 1) := by decide +kernel
theorem d_N_renew_30 : decode b_N_renew 30 = .ok (.iinc 2 1, 3) := by decide +kernel
theorem d_N_renew_33 : decode b_N_renew 33 = .ok (.goto (-21), 3) := by decide +kernel
theorem d_N_renew_36 : decode b_N_renew 36 = .ok (.aload_n 0, 1) := by decide +kernel
theorem d_N_renew_37 : decode b_N_renew 37 = .ok (.aload_n 1, 1) := by decide +kernel
theorem d_N_renew_38 : decode b_N_renew 38 = .ok (.invokevirtual 41, 3) := by decide +kernel
theorem d_N_renew_41 : decode b_N_renew 41 = .ok (.iconst 1, 1) := by decide +kernel
theorem d_N_renew_42 : decode b_N_renew 42 = .ok (.ireturn, 1) := by decide +kernel
