theorem dX2_allows_0 : decode cX2_allows 0 = .ok (.iconst 1, 1) := by decide +kernel
theorem dX2_allows_1 : decode cX2_allows 1 = .ok (.iload_n 1, 1) := by decide +kernel
theorem dX2_allows_2 : decode cX2_allows 2 = .ok (.ishl, 1) := by decide +kernel
theorem dX2_allows_3 : decode cX2_allows 3 = .ok (.iconst 1, 1) := by decide +kernel
theorem dX2_allows_4 : decode cX2_allows 4 = .ok (.isub, 1) := by decide +kernel
theorem dX2_allows_5 : decode cX2_allows 5 = .ok (.istore_n 3, 1) := by decide +kernel
theorem dX2_allows_6 : decode cX2_allows 6 = .ok (.aload_n 0, 1) := by decide +kernel
theorem dX2_allows_7 : decode cX2_allows 7 = .ok (.getfield 22, 3) := by decide +kernel
theorem dX2_allows_10 : decode cX2_allows 10 = .ok (.iload_n 1, 1) := by decide +kernel
theorem dX2_allows_11 : decode cX2_allows 11 = .ok (.iaload, 1) := by decide +kernel
theorem dX2_allows_12 : decode cX2_allows 12 = .ok (.aload_n 0, 1) := by decide +kernel
theorem dX2_allows_13 : decode cX2_allows 13 = .ok (.getfield 29, 3) := by decide +kernel
theorem dX2_allows_16 : decode cX2_allows 16 = .ok (.iload_n 2, 1) := by decide +kernel
theorem dX2_allows_17 : decode cX2_allows 17 = .ok (.iaload, 1) := by decide +kernel
theorem dX2_allows_18 : decode cX2_allows 18 = .ok (.iand, 1) := by decide +kernel
theorem dX2_allows_19 : decode cX2_allows 19 = .ok (.ifCond .ne 27, 3) := by decide +kernel
theorem dX2_allows_22 : decode cX2_allows 22 = .ok (.aload_n 0, 1) := by decide +kernel
theorem dX2_allows_23 : decode cX2_allows 23 = .ok (.getfield 26, 3) := by decide +kernel
theorem dX2_allows_26 : decode cX2_allows 26 = .ok (.iload_n 1, 1) := by decide +kernel
theorem dX2_allows_27 : decode cX2_allows 27 = .ok (.iaload, 1) := by decide +kernel
theorem dX2_allows_28 : decode cX2_allows 28 = .ok (.iload_n 3, 1) := by decide +kernel
theorem dX2_allows_29 : decode cX2_allows 29 = .ok (.iand, 1) := by decide +kernel
theorem dX2_allows_30 : decode cX2_allows 30 = .ok (.aload_n 0, 1) := by decide +kernel
theorem dX2_allows_31 : decode cX2_allows 31 = .ok (.getfield 29, 3) := by decide +kernel
theorem dX2_allows_34 : decode cX2_allows 34 = .ok (.iload_n 2, 1) := by decide +kernel
theorem dX2_allows_35 : decode cX2_allows 35 = .ok (.iaload, 1) := by decide +kernel
theorem dX2_allows_36 : decode cX2_allows 36 = .ok (.iconst (-1), 1) := by decide +kernel
theorem dX2_allows_37 : decode cX2_allows 37 = .ok (.ixor, 1) := by decide +kernel
theorem dX2_allows_38 : decode cX2_allows 38 = .ok (.iand, 1) := by decide +kernel
theorem dX2_allows_39 : decode cX2_allows 39 = .ok (.ifCond .ne 7, 3) := by decide +kernel
theorem dX2_allows_42 : decode cX2_allows 42 = .ok (.iconst 1, 1) := by decide +kernel
theorem dX2_allows_43 : decode cX2_allows 43 = .ok (.goto 4, 3) := by decide +kernel
theorem dX2_allows_46 : decode cX2_allows 46 = .ok (.iconst 0, 1) := by decide +kernel
theorem dX2_allows_47 : decode cX2_allows 47 = .ok (.ireturn, 1) := by decide +kernel
theorem dX2_weigh_0 : decode cX2_weigh 0 = .ok (.iconst 0, 1) := by decide +kernel
theorem dX2_weigh_1 : decode cX2_weigh 1 = .ok (.istore_n 3, 1) := by decide +kernel
theorem dX2_weigh_2 : decode cX2_weigh 2 = .ok (.iconst 0, 1) := by decide +kernel
theorem dX2_weigh_3 : decode cX2_weigh 3 = .ok (.istore 4, 2) := by decide +kernel
theorem dX2_weigh_5 : decode cX2_weigh 5 = .ok (.iload 4, 2) := by decide +kernel
theorem dX2_weigh_7 : decode cX2_weigh 7 = .ok (.iload_n 1, 1) := by decide +kernel
theorem dX2_weigh_8 : decode cX2_weigh 8 = .ok (.if_icmp .ge 21, 3) := by decide +kernel
theorem dX2_weigh_11 : decode cX2_weigh 11 = .ok (.iload_n 3, 1) := by decide +kernel
theorem dX2_weigh_12 : decode cX2_weigh 12 = .ok (.aload_n 0, 1) := by decide +kernel
theorem dX2_weigh_13 : decode cX2_weigh 13 = .ok (.getfield 11, 3) := by decide +kernel
theorem dX2_weigh_16 : decode cX2_weigh 16 = .ok (.iload_n 1, 1) := by decide +kernel
theorem dX2_weigh_17 : decode cX2_weigh 17 = .ok (.aaload, 1) := by decide +kernel
theorem dX2_weigh_18 : decode cX2_weigh 18 = .ok (.iload 4, 2) := by decide +kernel
theorem dX2_weigh_20 : decode cX2_weigh 20 = .ok (.iaload, 1) := by decide +kernel
theorem dX2_weigh_21 : decode cX2_weigh 21 = .ok (.iadd, 1) := by decide +kernel
theorem dX2_weigh_22 : decode cX2_weigh 22 = .ok (.istore_n 3, 1) := by decide +kernel
theorem dX2_weigh_23 : decode cX2_weigh 23 = .ok (.iinc 4 1, 3) := by decide +kernel
theorem dX2_weigh_26 : decode cX2_weigh 26 = .ok (.goto (-21), 3) := by decide +kernel
theorem dX2_weigh_29 : decode cX2_weigh 29 = .ok (.iconst 0, 1) := by decide +kernel
theorem dX2_weigh_30 : decode cX2_weigh 30 = .ok (.istore 4, 2) := by decide +kernel
theorem dX2_weigh_32 : decode cX2_weigh 32 = .ok (.iload 4, 2) := by decide +kernel
theorem dX2_weigh_34 : decode cX2_weigh 34 = .ok (.iload_n 2, 1) := by decide +kernel
theorem dX2_weigh_35 : decode cX2_weigh 35 = .ok (.if_icmp .gt 26, 3) := by decide +kernel
theorem dX2_weigh_38 : decode cX2_weigh 38 = .ok (.iload 4, 2) := by decide +kernel
theorem dX2_weigh_40 : decode cX2_weigh 40 = .ok (.bipush 9, 2) := by decide +kernel
theorem dX2_weigh_42 : decode cX2_weigh 42 = .ok (.if_icmp .ge 19, 3) := by decide +kernel
theorem dX2_weigh_45 : decode cX2_weigh 45 = .ok (.aload_n 0, 1) := by decide +kernel
theorem dX2_weigh_46 : decode cX2_weigh 46 = .ok (.getfield 19, 3) := by decide +kernel
theorem dX2_weigh_49 : decode cX2_weigh 49 = .ok (.iload_n 1, 1) := by decide +kernel
theorem dX2_weigh_50 : decode cX2_weigh 50 = .ok (.aaload, 1) := by decide +kernel
theorem dX2_weigh_51 : decode cX2_weigh 51 = .ok (.iload 4, 2) := by decide +kernel
theorem dX2_weigh_53 : decode cX2_weigh 53 = .ok (.iload_n 3, 1) := by decide +kernel
theorem dX2_weigh_54 : decode cX2_weigh 54 = .ok (.iastore, 1) := by decide +kernel
theorem dX2_weigh_55 : decode cX2_weigh 55 = .ok (.iinc 4 1, 3) := by decide +kernel
theorem dX2_weigh_58 : decode cX2_weigh 58 = .ok (.goto (-26), 3) := by decide +kernel
theorem dX2_weigh_61 : decode cX2_weigh 61 = .ok (.iconst 0, 1) := by decide +kernel
theorem dX2_weigh_62 : decode cX2_weigh 62 = .ok (.istore 4, 2) := by decide +kernel
theorem dX2_weigh_64 : decode cX2_weigh 64 = .ok (.iload 4, 2) := by decide +kernel
theorem dX2_weigh_66 : decode cX2_weigh 66 = .ok (.iload_n 1, 1) := by decide +kernel
theorem dX2_weigh_67 : decode cX2_weigh 67 = .ok (.if_icmp .ge 45, 3) := by decide +kernel
theorem dX2_weigh_70 : decode cX2_weigh 70 = .ok (.aload_n 0, 1) := by decide +kernel
theorem dX2_weigh_71 : decode cX2_weigh 71 = .ok (.getfield 19, 3) := by decide +kernel
theorem dX2_weigh_74 : decode cX2_weigh 74 = .ok (.iload_n 1, 1) := by decide +kernel
theorem dX2_weigh_75 : decode cX2_weigh 75 = .ok (.aaload, 1) := by decide +kernel
theorem dX2_weigh_76 : decode cX2_weigh 76 = .ok (.aload_n 0, 1) := by decide +kernel
theorem dX2_weigh_77 : decode cX2_weigh 77 = .ok (.getfield 32, 3) := by decide +kernel
theorem dX2_weigh_80 : decode cX2_weigh 80 = .ok (.iload 4, 2) := by decide +kernel
theorem dX2_weigh_82 : decode cX2_weigh 82 = .ok (.iaload, 1) := by decide +kernel
theorem dX2_weigh_83 : decode cX2_weigh 83 = .ok (.dup2, 1) := by decide +kernel
theorem dX2_weigh_84 : decode cX2_weigh 84 = .ok (.iaload, 1) := by decide +kernel
theorem dX2_weigh_85 : decode cX2_weigh 85 = .ok (.aload_n 0, 1) := by decide +kernel
theorem dX2_weigh_86 : decode cX2_weigh 86 = .ok (.getfield 16, 3) := by decide +kernel
theorem dX2_weigh_89 : decode cX2_weigh 89 = .ok (.iload_n 1, 1) := by decide +kernel
theorem dX2_weigh_90 : decode cX2_weigh 90 = .ok (.aaload, 1) := by decide +kernel
theorem dX2_weigh_91 : decode cX2_weigh 91 = .ok (.iload 4, 2) := by decide +kernel
theorem dX2_weigh_93 : decode cX2_weigh 93 = .ok (.iaload, 1) := by decide +kernel
theorem dX2_weigh_94 : decode cX2_weigh 94 = .ok (.aload_n 0, 1) := by decide +kernel
theorem dX2_weigh_95 : decode cX2_weigh 95 = .ok (.getfield 11, 3) := by decide +kernel
theorem dX2_weigh_98 : decode cX2_weigh 98 = .ok (.iload_n 1, 1) := by decide +kernel
theorem dX2_weigh_99 : decode cX2_weigh 99 = .ok (.aaload, 1) := by decide +kernel
theorem dX2_weigh_100 : decode cX2_weigh 100 = .ok (.iload 4, 2) := by decide +kernel
theorem dX2_weigh_102 : decode cX2_weigh 102 = .ok (.iaload, 1) := by decide +kernel
theorem dX2_weigh_103 : decode cX2_weigh 103 = .ok (.isub, 1) := by decide +kernel
theorem dX2_weigh_104 : decode cX2_weigh 104 = .ok (.iadd, 1) := by decide +kernel
theorem dX2_weigh_105 : decode cX2_weigh 105 = .ok (.iastore, 1) := by decide +kernel
theorem dX2_weigh_106 : decode cX2_weigh 106 = .ok (.iinc 4 1, 3) := by decide +kernel
theorem dX2_weigh_109 : decode cX2_weigh 109 = .ok (.goto (-45), 3) := by decide +kernel
theorem dX2_weigh_112 : decode cX2_weigh 112 = .ok (.return_, 1) := by decide +kernel
theorem dX2_keepBest_0 : decode cX2_keepBest 0 = .ok (.aload_n 0, 1) := by decide +kernel
theorem dX2_keepBest_1 : decode cX2_keepBest 1 = .ok (.iload_n 1, 1) := by decide +kernel
theorem dX2_keepBest_2 : decode cX2_keepBest 2 = .ok (.putfield 49, 3) := by decide +kernel
theorem dX2_keepBest_5 : decode cX2_keepBest 5 = .ok (.iconst 0, 1) := by decide +kernel
theorem dX2_keepBest_6 : decode cX2_keepBest 6 = .ok (.istore_n 2, 1) := by decide +kernel
theorem dX2_keepBest_7 : decode cX2_keepBest 7 = .ok (.iload_n 2, 1) := by decide +kernel
theorem dX2_keepBest_8 : decode cX2_keepBest 8 = .ok (.aload_n 0, 1) := by decide +kernel
theorem dX2_keepBest_9 : decode cX2_keepBest 9 = .ok (.getfield 38, 3) := by decide +kernel
theorem dX2_keepBest_12 : decode cX2_keepBest 12 = .ok (.if_icmp .ge 21, 3) := by decide +kernel
theorem dX2_keepBest_15 : decode cX2_keepBest 15 = .ok (.aload_n 0, 1) := by decide +kernel
theorem dX2_keepBest_16 : decode cX2_keepBest 16 = .ok (.getfield 35, 3) := by decide +kernel
theorem dX2_keepBest_19 : decode cX2_keepBest 19 = .ok (.iload_n 2, 1) := by decide +kernel
theorem dX2_keepBest_20 : decode cX2_keepBest 20 = .ok (.aload_n 0, 1) := by decide +kernel
theorem dX2_keepBest_21 : decode cX2_keepBest 21 = .ok (.getfield 32, 3) := by decide +kernel
theorem dX2_keepBest_24 : decode cX2_keepBest 24 = .ok (.iload_n 2, 1) := by decide +kernel
theorem dX2_keepBest_25 : decode cX2_keepBest 25 = .ok (.iaload, 1) := by decide +kernel
theorem dX2_keepBest_26 : decode cX2_keepBest 26 = .ok (.iastore, 1) := by decide +kernel
theorem dX2_keepBest_27 : decode cX2_keepBest 27 = .ok (.iinc 2 1, 3) := by decide +kernel
theorem dX2_keepBest_30 : decode cX2_keepBest 30 = .ok (.goto (-23), 3) := by decide +kernel
theorem dX2_keepBest_33 : decode cX2_keepBest 33 = .ok (.return_, 1) := by decide +kernel
theorem dX3_init_0 : decode cX3_init 0 = .ok (.aload_n 0, 1) := by decide +kernel
theorem dX3_init_1 : decode cX3_init 1 = .ok (.invokespecial 1, 3) := by decide +kernel
theorem dX3_init_4 : decode cX3_init 4 = .ok (.aload_n 0, 1) := by decide +kernel
theorem dX3_init_5 : decode cX3_init 5 = .ok (.new 7, 3) := by decide +kernel
theorem dX3_init_8 : decode cX3_init 8 = .ok (.dup, 1) := by decide +kernel
theorem dX3_init_9 : decode cX3_init 9 = .ok (.invokespecial 9, 3) := by decide +kernel
theorem dX3_init_12 : decode cX3_init 12 = .ok (.putfield 10, 3) := by decide +kernel
theorem dX3_init_15 : decode cX3_init 15 = .ok (.aload_n 0, 1) := by decide +kernel
theorem dX3_init_16 : decode cX3_init 16 = .ok (.new 16, 3) := by decide +kernel
theorem dX3_init_19 : decode cX3_init 19 = .ok (.dup, 1) := by decide +kernel
theorem dX3_init_20 : decode cX3_init 20 = .ok (.invokespecial 18, 3) := by decide +kernel
theorem dX3_init_23 : decode cX3_init 23 = .ok (.putfield 19, 3) := by decide +kernel
theorem dX3_init_26 : decode cX3_init 26 = .ok (.aload_n 0, 1) := by decide +kernel
theorem dX3_init_27 : decode cX3_init 27 = .ok (.new 23, 3) := by decide +kernel
theorem dX3_init_30 : decode cX3_init 30 = .ok (.dup, 1) := by decide +kernel
theorem dX3_init_31 : decode cX3_init 31 = .ok (.invokespecial 25, 3) := by decide +kernel
theorem dX3_init_34 : decode cX3_init 34 = .ok (.putfield 26, 3) := by decide +kernel
theorem dX3_init_37 : decode cX3_init 37 = .ok (.aload_n 0, 1) := by decide +kernel
theorem dX3_init_38 : decode cX3_init 38 = .ok (.bipush 9, 2) := by decide +kernel
theorem dX3_init_40 : decode cX3_init 40 = .ok (.newarray .int, 2) := by decide +kernel
theorem dX3_init_42 : decode cX3_init 42 = .ok (.putfield 30, 3) := by decide +kernel
theorem dX3_init_45 : decode cX3_init 45 = .ok (.aload_n 0, 1) := by decide +kernel
theorem dX3_init_46 : decode cX3_init 46 = .ok (.iconst 0, 1) := by decide +kernel
theorem dX3_init_47 : decode cX3_init 47 = .ok (.putfield 34, 3) := by decide +kernel
theorem dX3_init_50 : decode cX3_init 50 = .ok (.aload_n 0, 1) := by decide +kernel
theorem dX3_init_51 : decode cX3_init 51 = .ok (.iconst 0, 1) := by decide +kernel
theorem dX3_init_52 : decode cX3_init 52 = .ok (.putfield 38, 3) := by decide +kernel
theorem dX3_init_55 : decode cX3_init 55 = .ok (.return_, 1) := by decide +kernel
theorem dX3_post_0 : decode cX3_post 0 = .ok (.aload_n 0, 1) := by decide +kernel
theorem dX3_post_1 : decode cX3_post 1 = .ok (.getfield 10, 3) := by decide +kernel
theorem dX3_post_4 : decode cX3_post 4 = .ok (.iload_n 1, 1) := by decide +kernel
theorem dX3_post_5 : decode cX3_post 5 = .ok (.invokevirtual 41, 3) := by decide +kernel
theorem dX3_post_8 : decode cX3_post 8 = .ok (.ireturn, 1) := by decide +kernel
theorem dX3_line_0 : decode cX3_line 0 = .ok (.aload_n 0, 1) := by decide +kernel
theorem dX3_line_1 : decode cX3_line 1 = .ok (.getfield 10, 3) := by decide +kernel
theorem dX3_line_4 : decode cX3_line 4 = .ok (.iload_n 1, 1) := by decide +kernel
theorem dX3_line_5 : decode cX3_line 5 = .ok (.iload_n 2, 1) := by decide +kernel
theorem dX3_line_6 : decode cX3_line 6 = .ok (.iload_n 3, 1) := by decide +kernel
theorem dX3_line_7 : decode cX3_line 7 = .ok (.iload 4, 2) := by decide +kernel
theorem dX3_line_9 : decode cX3_line 9 = .ok (.invokevirtual 45, 3) := by decide +kernel
theorem dX3_line_12 : decode cX3_line 12 = .ok (.ireturn, 1) := by decide +kernel
theorem dX3_end_0 : decode cX3_end 0 = .ok (.aload_n 0, 1) := by decide +kernel
theorem dX3_end_1 : decode cX3_end 1 = .ok (.getfield 10, 3) := by decide +kernel
theorem dX3_end_4 : decode cX3_end 4 = .ok (.iload_n 1, 1) := by decide +kernel
theorem dX3_end_5 : decode cX3_end 5 = .ok (.invokevirtual 49, 3) := by decide +kernel
theorem dX3_end_8 : decode cX3_end 8 = .ok (.ireturn, 1) := by decide +kernel
theorem dX3_terminal_0 : decode cX3_terminal 0 = .ok (.aload_n 0, 1) := by decide +kernel
theorem dX3_terminal_1 : decode cX3_terminal 1 = .ok (.getfield 10, 3) := by decide +kernel
theorem dX3_terminal_4 : decode cX3_terminal 4 = .ok (.iload_n 1, 1) := by decide +kernel
theorem dX3_terminal_5 : decode cX3_terminal 5 = .ok (.invokevirtual 53, 3) := by decide +kernel
theorem dX3_terminal_8 : decode cX3_terminal 8 = .ok (.ifCond .eq 15, 3) := by decide +kernel
theorem dX3_terminal_11 : decode cX3_terminal 11 = .ok (.aload_n 0, 1) := by decide +kernel
theorem dX3_terminal_12 : decode cX3_terminal 12 = .ok (.getfield 38, 3) := by decide +kernel
theorem dX3_terminal_15 : decode cX3_terminal 15 = .ok (.iload_n 1, 1) := by decide +kernel
theorem dX3_terminal_16 : decode cX3_terminal 16 = .ok (.invokestatic 56, 3) := by decide +kernel
theorem dX3_terminal_19 : decode cX3_terminal 19 = .ok (.iload_n 2, 1) := by decide +kernel
theorem dX3_terminal_20 : decode cX3_terminal 20 = .ok (.if_icmp .ne 5, 3) := by decide +kernel
theorem dX3_terminal_23 : decode cX3_terminal 23 = .ok (.iconst 0, 1) := by decide +kernel
theorem dX3_terminal_24 : decode cX3_terminal 24 = .ok (.ireturn, 1) := by decide +kernel
theorem dX3_terminal_25 : decode cX3_terminal 25 = .ok (.aload_n 0, 1) := by decide +kernel
theorem dX3_terminal_26 : decode cX3_terminal 26 = .ok (.dup, 1) := by decide +kernel
theorem dX3_terminal_27 : decode cX3_terminal 27 = .ok (.getfield 38, 3) := by decide +kernel
theorem dX3_terminal_30 : decode cX3_terminal 30 = .ok (.iconst 1, 1) := by decide +kernel
theorem dX3_terminal_31 : decode cX3_terminal 31 = .ok (.iload_n 1, 1) := by decide +kernel
theorem dX3_terminal_32 : decode cX3_terminal 32 = .ok (.ishl, 1) := by decide +kernel
theorem dX3_terminal_33 : decode cX3_terminal 33 = .ok (.ixor, 1) := by decide +kernel
theorem dX3_terminal_34 : decode cX3_terminal 34 = .ok (.putfield 38, 3) := by decide +kernel
theorem dX3_terminal_37 : decode cX3_terminal 37 = .ok (.iconst 1, 1) := by decide +kernel
theorem dX3_terminal_38 : decode cX3_terminal 38 = .ok (.ireturn, 1) := by decide +kernel
theorem dX3_pair_0 : decode cX3_pair 0 = .ok (.aload_n 0, 1) := by decide +kernel
theorem dX3_pair_1 : decode cX3_pair 1 = .ok (.getfield 10, 3) := by decide +kernel
theorem dX3_pair_4 : decode cX3_pair 4 = .ok (.iload_n 1, 1) := by decide +kernel
theorem dX3_pair_5 : decode cX3_pair 5 = .ok (.iload_n 2, 1) := by decide +kernel
theorem dX3_pair_6 : decode cX3_pair 6 = .ok (.invokevirtual 60, 3) := by decide +kernel
theorem dX3_pair_9 : decode cX3_pair 9 = .ok (.ifCond .eq 25, 3) := by decide +kernel
theorem dX3_pair_12 : decode cX3_pair 12 = .ok (.aload_n 0, 1) := by decide +kernel
theorem dX3_pair_13 : decode cX3_pair 13 = .ok (.getfield 30, 3) := by decide +kernel
theorem dX3_pair_16 : decode cX3_pair 16 = .ok (.iload_n 1, 1) := by decide +kernel
theorem dX3_pair_17 : decode cX3_pair 17 = .ok (.iaload, 1) := by decide +kernel
theorem dX3_pair_18 : decode cX3_pair 18 = .ok (.iload_n 2, 1) := by decide +kernel
theorem dX3_pair_19 : decode cX3_pair 19 = .ok (.invokestatic 56, 3) := by decide +kernel
theorem dX3_pair_22 : decode cX3_pair 22 = .ok (.ifCond .ne 12, 3) := by decide +kernel
theorem dX3_pair_25 : decode cX3_pair 25 = .ok (.aload_n 0, 1) := by decide +kernel
theorem dX3_pair_26 : decode cX3_pair 26 = .ok (.getfield 34, 3) := by decide +kernel
theorem dX3_pair_29 : decode cX3_pair 29 = .ok (.bipush 8, 2) := by decide +kernel
theorem dX3_pair_31 : decode cX3_pair 31 = .ok (.if_icmp .lt 5, 3) := by decide +kernel
theorem dX3_pair_34 : decode cX3_pair 34 = .ok (.iconst 0, 1) := by decide +kernel
theorem dX3_pair_35 : decode cX3_pair 35 = .ok (.ireturn, 1) := by decide +kernel
theorem dX3_pair_36 : decode cX3_pair 36 = .ok (.aload_n 0, 1) := by decide +kernel
theorem dX3_pair_37 : decode cX3_pair 37 = .ok (.iload_n 1, 1) := by decide +kernel
theorem dX3_pair_38 : decode cX3_pair 38 = .ok (.iload_n 2, 1) := by decide +kernel
theorem dX3_pair_39 : decode cX3_pair 39 = .ok (.invokevirtual 63, 3) := by decide +kernel
theorem dX3_pair_42 : decode cX3_pair 42 = .ok (.aload_n 0, 1) := by decide +kernel
theorem dX3_pair_43 : decode cX3_pair 43 = .ok (.dup, 1) := by decide +kernel
theorem dX3_pair_44 : decode cX3_pair 44 = .ok (.getfield 34, 3) := by decide +kernel
theorem dX3_pair_47 : decode cX3_pair 47 = .ok (.iconst 1, 1) := by decide +kernel
theorem dX3_pair_48 : decode cX3_pair 48 = .ok (.iadd, 1) := by decide +kernel
theorem dX3_pair_49 : decode cX3_pair 49 = .ok (.putfield 34, 3) := by decide +kernel
theorem dX3_pair_52 : decode cX3_pair 52 = .ok (.iconst 1, 1) := by decide +kernel
theorem dX3_pair_53 : decode cX3_pair 53 = .ok (.ireturn, 1) := by decide +kernel
theorem dX3_unpair_0 : decode cX3_unpair 0 = .ok (.aload_n 0, 1) := by decide +kernel
theorem dX3_unpair_1 : decode cX3_unpair 1 = .ok (.getfield 10, 3) := by decide +kernel
theorem dX3_unpair_4 : decode cX3_unpair 4 = .ok (.iload_n 1, 1) := by decide +kernel
theorem dX3_unpair_5 : decode cX3_unpair 5 = .ok (.iload_n 2, 1) := by decide +kernel
theorem dX3_unpair_6 : decode cX3_unpair 6 = .ok (.invokevirtual 60, 3) := by decide +kernel
theorem dX3_unpair_9 : decode cX3_unpair 9 = .ok (.ifCond .eq 16, 3) := by decide +kernel
theorem dX3_unpair_12 : decode cX3_unpair 12 = .ok (.aload_n 0, 1) := by decide +kernel
theorem dX3_unpair_13 : decode cX3_unpair 13 = .ok (.getfield 30, 3) := by decide +kernel
theorem dX3_unpair_16 : decode cX3_unpair 16 = .ok (.iload_n 1, 1) := by decide +kernel
theorem dX3_unpair_17 : decode cX3_unpair 17 = .ok (.iaload, 1) := by decide +kernel
theorem dX3_unpair_18 : decode cX3_unpair 18 = .ok (.iload_n 2, 1) := by decide +kernel
theorem dX3_unpair_19 : decode cX3_unpair 19 = .ok (.invokestatic 56, 3) := by decide +kernel
theorem dX3_unpair_22 : decode cX3_unpair 22 = .ok (.ifCond .ne 5, 3) := by decide +kernel
theorem dX3_unpair_25 : decode cX3_unpair 25 = .ok (.iconst 0, 1) := by decide +kernel
theorem dX3_unpair_26 : decode cX3_unpair 26 = .ok (.ireturn, 1) := by decide +kernel
theorem dX3_unpair_27 : decode cX3_unpair 27 = .ok (.aload_n 0, 1) := by decide +kernel
theorem dX3_unpair_28 : decode cX3_unpair 28 = .ok (.iload_n 1, 1) := by decide +kernel
theorem dX3_unpair_29 : decode cX3_unpair 29 = .ok (.iload_n 2, 1) := by decide +kernel
theorem dX3_unpair_30 : decode cX3_unpair 30 = .ok (.invokevirtual 63, 3) := by decide +kernel
theorem dX3_unpair_33 : decode cX3_unpair 33 = .ok (.aload_n 0, 1) := by decide +kernel
theorem dX3_unpair_34 : decode cX3_unpair 34 = .ok (.dup, 1) := by decide +kernel
theorem dX3_unpair_35 : decode cX3_unpair 35 = .ok (.getfield 34, 3) := by decide +kernel
theorem dX3_unpair_38 : decode cX3_unpair 38 = .ok (.iconst 1, 1) := by decide +kernel
theorem dX3_unpair_39 : decode cX3_unpair 39 = .ok (.isub, 1) := by decide +kernel
theorem dX3_unpair_40 : decode cX3_unpair 40 = .ok (.putfield 34, 3) := by decide +kernel
theorem dX3_unpair_43 : decode cX3_unpair 43 = .ok (.iconst 1, 1) := by decide +kernel
theorem dX3_unpair_44 : decode cX3_unpair 44 = .ok (.ireturn, 1) := by decide +kernel
theorem dX3_cut_0 : decode cX3_cut 0 = .ok (.aload_n 0, 1) := by decide +kernel
theorem dX3_cut_1 : decode cX3_cut 1 = .ok (.iload_n 1, 1) := by decide +kernel
theorem dX3_cut_2 : decode cX3_cut 2 = .ok (.iload_n 2, 1) := by decide +kernel
theorem dX3_cut_3 : decode cX3_cut 3 = .ok (.invokevirtual 67, 3) := by decide +kernel
theorem dX3_cut_6 : decode cX3_cut 6 = .ok (.ifCond .eq 13, 3) := by decide +kernel
theorem dX3_cut_9 : decode cX3_cut 9 = .ok (.aload_n 0, 1) := by decide +kernel
theorem dX3_cut_10 : decode cX3_cut 10 = .ok (.getfield 19, 3) := by decide +kernel
theorem dX3_cut_13 : decode cX3_cut 13 = .ok (.invokevirtual 70, 3) := by decide +kernel
theorem dX3_cut_16 : decode cX3_cut 16 = .ok (.goto 4, 3) := by decide +kernel
theorem dX3_cut_19 : decode cX3_cut 19 = .ok (.iconst (-1), 1) := by decide +kernel
theorem dX3_cut_20 : decode cX3_cut 20 = .ok (.ireturn, 1) := by decide +kernel
theorem dX3_cutPart_0 : decode cX3_cutPart 0 = .ok (.aload_n 0, 1) := by decide +kernel
theorem dX3_cutPart_1 : decode cX3_cutPart 1 = .ok (.getfield 10, 3) := by decide +kernel
theorem dX3_cutPart_4 : decode cX3_cutPart 4 = .ok (.iload_n 3, 1) := by decide +kernel
theorem dX3_cutPart_5 : decode cX3_cutPart 5 = .ok (.invokevirtual 53, 3) := by decide +kernel
theorem dX3_cutPart_8 : decode cX3_cutPart 8 = .ok (.ifCond .eq 23, 3) := by decide +kernel
theorem dX3_cutPart_11 : decode cX3_cutPart 11 = .ok (.aload_n 0, 1) := by decide +kernel
theorem dX3_cutPart_12 : decode cX3_cutPart 12 = .ok (.iload_n 1, 1) := by decide +kernel
theorem dX3_cutPart_13 : decode cX3_cutPart 13 = .ok (.iload_n 2, 1) := by decide +kernel
theorem dX3_cutPart_14 : decode cX3_cutPart 14 = .ok (.invokevirtual 67, 3) := by decide +kernel
theorem dX3_cutPart_17 : decode cX3_cutPart 17 = .ok (.ifCond .eq 14, 3) := by decide +kernel
theorem dX3_cutPart_20 : decode cX3_cutPart 20 = .ok (.aload_n 0, 1) := by decide +kernel
theorem dX3_cutPart_21 : decode cX3_cutPart 21 = .ok (.getfield 19, 3) := by decide +kernel
theorem dX3_cutPart_24 : decode cX3_cutPart 24 = .ok (.iload_n 3, 1) := by decide +kernel
theorem dX3_cutPart_25 : decode cX3_cutPart 25 = .ok (.invokevirtual 74, 3) := by decide +kernel
theorem dX3_cutPart_28 : decode cX3_cutPart 28 = .ok (.goto 4, 3) := by decide +kernel
theorem dX3_cutPart_31 : decode cX3_cutPart 31 = .ok (.iconst (-1), 1) := by decide +kernel
theorem dX3_cutPart_32 : decode cX3_cutPart 32 = .ok (.ireturn, 1) := by decide +kernel
theorem dX3_terminals_0 : decode cX3_terminals 0 = .ok (.aload_n 0, 1) := by decide +kernel
theorem dX3_terminals_1 : decode cX3_terminals 1 = .ok (.invokevirtual 77, 3) := by decide +kernel
theorem dX3_terminals_4 : decode cX3_terminals 4 = .ok (.ifCond .eq 13, 3) := by decide +kernel
theorem dX3_terminals_7 : decode cX3_terminals 7 = .ok (.aload_n 0, 1) := by decide +kernel
theorem dX3_terminals_8 : decode cX3_terminals 8 = .ok (.getfield 19, 3) := by decide +kernel
theorem dX3_terminals_11 : decode cX3_terminals 11 = .ok (.invokevirtual 70, 3) := by decide +kernel
theorem dX3_terminals_14 : decode cX3_terminals 14 = .ok (.goto 4, 3) := by decide +kernel
theorem dX3_terminals_17 : decode cX3_terminals 17 = .ok (.iconst (-1), 1) := by decide +kernel
theorem dX3_terminals_18 : decode cX3_terminals 18 = .ok (.ireturn, 1) := by decide +kernel
theorem dX3_terminalPart_0 : decode cX3_terminalPart 0 = .ok (.aload_n 0, 1) := by decide +kernel
theorem dX3_terminalPart_1 : decode cX3_terminalPart 1 = .ok (.getfield 10, 3) := by decide +kernel
theorem dX3_terminalPart_4 : decode cX3_terminalPart 4 = .ok (.iload_n 1, 1) := by decide +kernel
theorem dX3_terminalPart_5 : decode cX3_terminalPart 5 = .ok (.invokevirtual 53, 3) := by decide +kernel
theorem dX3_terminalPart_8 : decode cX3_terminalPart 8 = .ok (.ifCond .eq 21, 3) := by decide +kernel
theorem dX3_terminalPart_11 : decode cX3_terminalPart 11 = .ok (.aload_n 0, 1) := by decide +kernel
theorem dX3_terminalPart_12 : decode cX3_terminalPart 12 = .ok (.invokevirtual 77, 3) := by decide +kernel
theorem dX3_terminalPart_15 : decode cX3_terminalPart 15 = .ok (.ifCond .eq 14, 3) := by decide +kernel
theorem dX3_terminalPart_18 : decode cX3_terminalPart 18 = .ok (.aload_n 0, 1) := by decide +kernel
theorem dX3_terminalPart_19 : decode cX3_terminalPart 19 = .ok (.getfield 19, 3) := by decide +kernel
theorem dX3_terminalPart_22 : decode cX3_terminalPart 22 = .ok (.iload_n 1, 1) := by decide +kernel
theorem dX3_terminalPart_23 : decode cX3_terminalPart 23 = .ok (.invokevirtual 74, 3) := by decide +kernel
theorem dX3_terminalPart_26 : decode cX3_terminalPart 26 = .ok (.goto 4, 3) := by decide +kernel
theorem dX3_terminalPart_29 : decode cX3_terminalPart 29 = .ok (.iconst (-1), 1) := by decide +kernel
theorem dX3_terminalPart_30 : decode cX3_terminalPart 30 = .ok (.ireturn, 1) := by decide +kernel
theorem dX3_apart_0 : decode cX3_apart 0 = .ok (.aload_n 0, 1) := by decide +kernel
theorem dX3_apart_1 : decode cX3_apart 1 = .ok (.invokevirtual 81, 3) := by decide +kernel
theorem dX3_apart_4 : decode cX3_apart 4 = .ok (.ifCond .eq 13, 3) := by decide +kernel
theorem dX3_apart_7 : decode cX3_apart 7 = .ok (.aload_n 0, 1) := by decide +kernel
theorem dX3_apart_8 : decode cX3_apart 8 = .ok (.getfield 19, 3) := by decide +kernel
theorem dX3_apart_11 : decode cX3_apart 11 = .ok (.invokevirtual 70, 3) := by decide +kernel
theorem dX3_apart_14 : decode cX3_apart 14 = .ok (.goto 4, 3) := by decide +kernel
theorem dX3_apart_17 : decode cX3_apart 17 = .ok (.iconst (-1), 1) := by decide +kernel
theorem dX3_apart_18 : decode cX3_apart 18 = .ok (.ireturn, 1) := by decide +kernel
theorem dX3_apartPart_0 : decode cX3_apartPart 0 = .ok (.aload_n 0, 1) := by decide +kernel
theorem dX3_apartPart_1 : decode cX3_apartPart 1 = .ok (.getfield 10, 3) := by decide +kernel
theorem dX3_apartPart_4 : decode cX3_apartPart 4 = .ok (.iload_n 1, 1) := by decide +kernel
theorem dX3_apartPart_5 : decode cX3_apartPart 5 = .ok (.invokevirtual 53, 3) := by decide +kernel
theorem dX3_apartPart_8 : decode cX3_apartPart 8 = .ok (.ifCond .eq 21, 3) := by decide +kernel
theorem dX3_apartPart_11 : decode cX3_apartPart 11 = .ok (.aload_n 0, 1) := by decide +kernel
theorem dX3_apartPart_12 : decode cX3_apartPart 12 = .ok (.invokevirtual 81, 3) := by decide +kernel
theorem dX3_apartPart_15 : decode cX3_apartPart 15 = .ok (.ifCond .eq 14, 3) := by decide +kernel
theorem dX3_apartPart_18 : decode cX3_apartPart 18 = .ok (.aload_n 0, 1) := by decide +kernel
theorem dX3_apartPart_19 : decode cX3_apartPart 19 = .ok (.getfield 19, 3) := by decide +kernel
theorem dX3_apartPart_22 : decode cX3_apartPart 22 = .ok (.iload_n 1, 1) := by decide +kernel
theorem dX3_apartPart_23 : decode cX3_apartPart 23 = .ok (.invokevirtual 74, 3) := by decide +kernel
theorem dX3_apartPart_26 : decode cX3_apartPart 26 = .ok (.goto 4, 3) := by decide +kernel
theorem dX3_apartPart_29 : decode cX3_apartPart 29 = .ok (.iconst (-1), 1) := by decide +kernel
theorem dX3_apartPart_30 : decode cX3_apartPart 30 = .ok (.ireturn, 1) := by decide +kernel
theorem dX3_sure_0 : decode cX3_sure 0 = .ok (.aload_n 0, 1) := by decide +kernel
theorem dX3_sure_1 : decode cX3_sure 1 = .ok (.getfield 10, 3) := by decide +kernel
theorem dX3_sure_4 : decode cX3_sure 4 = .ok (.iload_n 1, 1) := by decide +kernel
theorem dX3_sure_5 : decode cX3_sure 5 = .ok (.invokevirtual 84, 3) := by decide +kernel
theorem dX3_sure_8 : decode cX3_sure 8 = .ok (.ifCond .ne 5, 3) := by decide +kernel
theorem dX3_sure_11 : decode cX3_sure 11 = .ok (.iconst (-1), 1) := by decide +kernel
theorem dX3_sure_12 : decode cX3_sure 12 = .ok (.ireturn, 1) := by decide +kernel
theorem dX3_sure_13 : decode cX3_sure 13 = .ok (.aload_n 0, 1) := by decide +kernel
theorem dX3_sure_14 : decode cX3_sure 14 = .ok (.getfield 10, 3) := by decide +kernel
theorem dX3_sure_17 : decode cX3_sure 17 = .ok (.getfield 87, 3) := by decide +kernel
theorem dX3_sure_20 : decode cX3_sure 20 = .ok (.iload_n 1, 1) := by decide +kernel
theorem dX3_sure_21 : decode cX3_sure 21 = .ok (.iaload, 1) := by decide +kernel
theorem dX3_sure_22 : decode cX3_sure 22 = .ok (.istore_n 2, 1) := by decide +kernel
theorem dX3_sure_23 : decode cX3_sure 23 = .ok (.aload_n 0, 1) := by decide +kernel
theorem dX3_sure_24 : decode cX3_sure 24 = .ok (.getfield 10, 3) := by decide +kernel
theorem dX3_sure_27 : decode cX3_sure 27 = .ok (.getfield 90, 3) := by decide +kernel
theorem dX3_sure_30 : decode cX3_sure 30 = .ok (.iload_n 1, 1) := by decide +kernel
theorem dX3_sure_31 : decode cX3_sure 31 = .ok (.iaload, 1) := by decide +kernel
theorem dX3_sure_32 : decode cX3_sure 32 = .ok (.istore_n 3, 1) := by decide +kernel
theorem dX3_sure_33 : decode cX3_sure 33 = .ok (.aload_n 0, 1) := by decide +kernel
theorem dX3_sure_34 : decode cX3_sure 34 = .ok (.invokevirtual 93, 3) := by decide +kernel
theorem dX3_sure_37 : decode cX3_sure 37 = .ok (.aload_n 0, 1) := by decide +kernel
theorem dX3_sure_38 : decode cX3_sure 38 = .ok (.getfield 19, 3) := by decide +kernel
theorem dX3_sure_41 : decode cX3_sure 41 = .ok (.iload_n 2, 1) := by decide +kernel
theorem dX3_sure_42 : decode cX3_sure 42 = .ok (.iload_n 3, 1) := by decide +kernel
theorem dX3_sure_43 : decode cX3_sure 43 = .ok (.invokevirtual 96, 3) := by decide +kernel
theorem dX3_sure_46 : decode cX3_sure 46 = .ok (.aload_n 0, 1) := by decide +kernel
theorem dX3_sure_47 : decode cX3_sure 47 = .ok (.getfield 19, 3) := by decide +kernel
theorem dX3_sure_50 : decode cX3_sure 50 = .ok (.invokevirtual 99, 3) := by decide +kernel
theorem dX3_sure_53 : decode cX3_sure 53 = .ok (.aload_n 0, 1) := by decide +kernel
theorem dX3_sure_54 : decode cX3_sure 54 = .ok (.getfield 19, 3) := by decide +kernel
theorem dX3_sure_57 : decode cX3_sure 57 = .ok (.invokevirtual 70, 3) := by decide +kernel
theorem dX3_sure_60 : decode cX3_sure 60 = .ok (.istore 4, 2) := by decide +kernel
theorem dX3_sure_62 : decode cX3_sure 62 = .ok (.aload_n 0, 1) := by decide +kernel
theorem dX3_sure_63 : decode cX3_sure 63 = .ok (.invokevirtual 93, 3) := by decide +kernel
theorem dX3_sure_66 : decode cX3_sure 66 = .ok (.aload_n 0, 1) := by decide +kernel
theorem dX3_sure_67 : decode cX3_sure 67 = .ok (.getfield 19, 3) := by decide +kernel
theorem dX3_sure_70 : decode cX3_sure 70 = .ok (.iload_n 2, 1) := by decide +kernel
theorem dX3_sure_71 : decode cX3_sure 71 = .ok (.iload_n 3, 1) := by decide +kernel
theorem dX3_sure_72 : decode cX3_sure 72 = .ok (.invokevirtual 102, 3) := by decide +kernel
theorem dX3_sure_75 : decode cX3_sure 75 = .ok (.aload_n 0, 1) := by decide +kernel
theorem dX3_sure_76 : decode cX3_sure 76 = .ok (.getfield 19, 3) := by decide +kernel
theorem dX3_sure_79 : decode cX3_sure 79 = .ok (.invokevirtual 99, 3) := by decide +kernel
theorem dX3_sure_82 : decode cX3_sure 82 = .ok (.aload_n 0, 1) := by decide +kernel
theorem dX3_sure_83 : decode cX3_sure 83 = .ok (.getfield 19, 3) := by decide +kernel
theorem dX3_sure_86 : decode cX3_sure 86 = .ok (.invokevirtual 70, 3) := by decide +kernel
theorem dX3_sure_89 : decode cX3_sure 89 = .ok (.istore 5, 2) := by decide +kernel
theorem dX3_sure_91 : decode cX3_sure 91 = .ok (.iload 5, 2) := by decide +kernel
theorem dX3_sure_93 : decode cX3_sure 93 = .ok (.iload 4, 2) := by decide +kernel
theorem dX3_sure_95 : decode cX3_sure 95 = .ok (.if_icmp .ge 5, 3) := by decide +kernel
theorem dX3_sure_98 : decode cX3_sure 98 = .ok (.iconst 2, 1) := by decide +kernel
theorem dX3_sure_99 : decode cX3_sure 99 = .ok (.ireturn, 1) := by decide +kernel
theorem dX3_sure_100 : decode cX3_sure 100 = .ok (.iload 5, 2) := by decide +kernel
theorem dX3_sure_102 : decode cX3_sure 102 = .ok (.iload 4, 2) := by decide +kernel
theorem dX3_sure_104 : decode cX3_sure 104 = .ok (.if_icmp .ne 7, 3) := by decide +kernel
theorem dX3_sure_107 : decode cX3_sure 107 = .ok (.iconst 1, 1) := by decide +kernel
theorem dX3_sure_108 : decode cX3_sure 108 = .ok (.goto 4, 3) := by decide +kernel
theorem dX3_sure_111 : decode cX3_sure 111 = .ok (.iconst 0, 1) := by decide +kernel
theorem dX3_sure_112 : decode cX3_sure 112 = .ok (.ireturn, 1) := by decide +kernel
theorem dX3_pieces_0 : decode cX3_pieces 0 = .ok (.aload_n 0, 1) := by decide +kernel
theorem dX3_pieces_1 : decode cX3_pieces 1 = .ok (.iload_n 1, 1) := by decide +kernel
theorem dX3_pieces_2 : decode cX3_pieces 2 = .ok (.invokevirtual 105, 3) := by decide +kernel
theorem dX3_pieces_5 : decode cX3_pieces 5 = .ok (.ifCond .eq 13, 3) := by decide +kernel
theorem dX3_pieces_8 : decode cX3_pieces 8 = .ok (.aload_n 0, 1) := by decide +kernel
theorem dX3_pieces_9 : decode cX3_pieces 9 = .ok (.getfield 19, 3) := by decide +kernel
theorem dX3_pieces_12 : decode cX3_pieces 12 = .ok (.invokevirtual 70, 3) := by decide +kernel
theorem dX3_pieces_15 : decode cX3_pieces 15 = .ok (.goto 4, 3) := by decide +kernel
theorem dX3_pieces_18 : decode cX3_pieces 18 = .ok (.iconst (-1), 1) := by decide +kernel
theorem dX3_pieces_19 : decode cX3_pieces 19 = .ok (.ireturn, 1) := by decide +kernel
theorem dX3_piece_0 : decode cX3_piece 0 = .ok (.aload_n 0, 1) := by decide +kernel
theorem dX3_piece_1 : decode cX3_piece 1 = .ok (.getfield 10, 3) := by decide +kernel
theorem dX3_piece_4 : decode cX3_piece 4 = .ok (.iload_n 2, 1) := by decide +kernel
theorem dX3_piece_5 : decode cX3_piece 5 = .ok (.invokevirtual 53, 3) := by decide +kernel
theorem dX3_piece_8 : decode cX3_piece 8 = .ok (.ifCond .eq 22, 3) := by decide +kernel
theorem dX3_piece_11 : decode cX3_piece 11 = .ok (.aload_n 0, 1) := by decide +kernel
theorem dX3_piece_12 : decode cX3_piece 12 = .ok (.iload_n 1, 1) := by decide +kernel
theorem dX3_piece_13 : decode cX3_piece 13 = .ok (.invokevirtual 105, 3) := by decide +kernel
theorem dX3_piece_16 : decode cX3_piece 16 = .ok (.ifCond .eq 14, 3) := by decide +kernel
theorem dX3_piece_19 : decode cX3_piece 19 = .ok (.aload_n 0, 1) := by decide +kernel
theorem dX3_piece_20 : decode cX3_piece 20 = .ok (.getfield 19, 3) := by decide +kernel
theorem dX3_piece_23 : decode cX3_piece 23 = .ok (.iload_n 2, 1) := by decide +kernel
theorem dX3_piece_24 : decode cX3_piece 24 = .ok (.invokevirtual 74, 3) := by decide +kernel
theorem dX3_piece_27 : decode cX3_piece 27 = .ok (.goto 4, 3) := by decide +kernel
theorem dX3_piece_30 : decode cX3_piece 30 = .ok (.iconst (-1), 1) := by decide +kernel
theorem dX3_piece_31 : decode cX3_piece 31 = .ok (.ireturn, 1) := by decide +kernel
theorem dX3_wholes_0 : decode cX3_wholes 0 = .ok (.aload_n 0, 1) := by decide +kernel
theorem dX3_wholes_1 : decode cX3_wholes 1 = .ok (.getfield 26, 3) := by decide +kernel
theorem dX3_wholes_4 : decode cX3_wholes 4 = .ok (.aload_n 0, 1) := by decide +kernel
theorem dX3_wholes_5 : decode cX3_wholes 5 = .ok (.getfield 10, 3) := by decide +kernel
theorem dX3_wholes_8 : decode cX3_wholes 8 = .ok (.invokevirtual 108, 3) := by decide +kernel
theorem dX3_wholes_11 : decode cX3_wholes 11 = .ok (.aload_n 0, 1) := by decide +kernel
theorem dX3_wholes_12 : decode cX3_wholes 12 = .ok (.getfield 26, 3) := by decide +kernel
theorem dX3_wholes_15 : decode cX3_wholes 15 = .ok (.getfield 112, 3) := by decide +kernel
theorem dX3_wholes_18 : decode cX3_wholes 18 = .ok (.ireturn, 1) := by decide +kernel
theorem dX3_whole_0 : decode cX3_whole 0 = .ok (.aload_n 0, 1) := by decide +kernel
theorem dX3_whole_1 : decode cX3_whole 1 = .ok (.getfield 10, 3) := by decide +kernel
theorem dX3_whole_4 : decode cX3_whole 4 = .ok (.iload_n 2, 1) := by decide +kernel
theorem dX3_whole_5 : decode cX3_whole 5 = .ok (.invokevirtual 53, 3) := by decide +kernel
theorem dX3_whole_8 : decode cX3_whole 8 = .ok (.ifCond .ne 5, 3) := by decide +kernel
theorem dX3_whole_11 : decode cX3_whole 11 = .ok (.iconst (-1), 1) := by decide +kernel
theorem dX3_whole_12 : decode cX3_whole 12 = .ok (.ireturn, 1) := by decide +kernel
theorem dX3_whole_13 : decode cX3_whole 13 = .ok (.aload_n 0, 1) := by decide +kernel
theorem dX3_whole_14 : decode cX3_whole 14 = .ok (.getfield 26, 3) := by decide +kernel
theorem dX3_whole_17 : decode cX3_whole 17 = .ok (.aload_n 0, 1) := by decide +kernel
theorem dX3_whole_18 : decode cX3_whole 18 = .ok (.getfield 10, 3) := by decide +kernel
theorem dX3_whole_21 : decode cX3_whole 21 = .ok (.invokevirtual 108, 3) := by decide +kernel
theorem dX3_whole_24 : decode cX3_whole 24 = .ok (.aload_n 0, 1) := by decide +kernel
theorem dX3_whole_25 : decode cX3_whole 25 = .ok (.getfield 26, 3) := by decide +kernel
theorem dX3_whole_28 : decode cX3_whole 28 = .ok (.iload_n 1, 1) := by decide +kernel
theorem dX3_whole_29 : decode cX3_whole 29 = .ok (.iload_n 2, 1) := by decide +kernel
theorem dX3_whole_30 : decode cX3_whole 30 = .ok (.invokevirtual 115, 3) := by decide +kernel
theorem dX3_whole_33 : decode cX3_whole 33 = .ok (.ireturn, 1) := by decide +kernel
