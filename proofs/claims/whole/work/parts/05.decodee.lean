theorem dX4_isLine_0 : decode cX4_isLine 0 = .ok (.iload_n 1, 1) := by decide +kernel
theorem dX4_isLine_1 : decode cX4_isLine 1 = .ok (.iconst 0, 1) := by decide +kernel
theorem dX4_isLine_2 : decode cX4_isLine 2 = .ok (.aload_n 0, 1) := by decide +kernel
theorem dX4_isLine_3 : decode cX4_isLine 3 = .ok (.getfield 58, 3) := by decide +kernel
theorem dX4_isLine_6 : decode cX4_isLine 6 = .ok (.iconst 1, 1) := by decide +kernel
theorem dX4_isLine_7 : decode cX4_isLine 7 = .ok (.isub, 1) := by decide +kernel
theorem dX4_isLine_8 : decode cX4_isLine 8 = .ok (.invokestatic 54, 3) := by decide +kernel
theorem dX4_isLine_11 : decode cX4_isLine 11 = .ok (.ifCond .eq 16, 3) := by decide +kernel
theorem dX4_isLine_14 : decode cX4_isLine 14 = .ok (.aload_n 0, 1) := by decide +kernel
theorem dX4_isLine_15 : decode cX4_isLine 15 = .ok (.getfield 29, 3) := by decide +kernel
theorem dX4_isLine_18 : decode cX4_isLine 18 = .ok (.iload_n 1, 1) := by decide +kernel
theorem dX4_isLine_19 : decode cX4_isLine 19 = .ok (.baload, 1) := by decide +kernel
theorem dX4_isLine_20 : decode cX4_isLine 20 = .ok (.ifCond .ne 7, 3) := by decide +kernel
theorem dX4_isLine_23 : decode cX4_isLine 23 = .ok (.iconst 1, 1) := by decide +kernel
theorem dX4_isLine_24 : decode cX4_isLine 24 = .ok (.goto 4, 3) := by decide +kernel
theorem dX4_isLine_27 : decode cX4_isLine 27 = .ok (.iconst 0, 1) := by decide +kernel
theorem dX4_isLine_28 : decode cX4_isLine 28 = .ok (.ireturn, 1) := by decide +kernel
theorem dX4_post_0 : decode cX4_post 0 = .ok (.iload_n 1, 1) := by decide +kernel
theorem dX4_post_1 : decode cX4_post 1 = .ok (.iconst 1, 1) := by decide +kernel
theorem dX4_post_2 : decode cX4_post 2 = .ok (.bipush 99, 2) := by decide +kernel
theorem dX4_post_4 : decode cX4_post 4 = .ok (.invokestatic 54, 3) := by decide +kernel
theorem dX4_post_7 : decode cX4_post 7 = .ok (.ifCond .eq 12, 3) := by decide +kernel
theorem dX4_post_10 : decode cX4_post 10 = .ok (.aload_n 0, 1) := by decide +kernel
theorem dX4_post_11 : decode cX4_post 11 = .ok (.getfield 50, 3) := by decide +kernel
theorem dX4_post_14 : decode cX4_post 14 = .ok (.bipush 9, 2) := by decide +kernel
theorem dX4_post_16 : decode cX4_post 16 = .ok (.if_icmp .ne 5, 3) := by decide +kernel
theorem dX4_post_19 : decode cX4_post 19 = .ok (.iconst (-1), 1) := by decide +kernel
theorem dX4_post_20 : decode cX4_post 20 = .ok (.ireturn, 1) := by decide +kernel
theorem dX4_post_21 : decode cX4_post 21 = .ok (.aload_n 0, 1) := by decide +kernel
theorem dX4_post_22 : decode cX4_post 22 = .ok (.getfield 9, 3) := by decide +kernel
theorem dX4_post_25 : decode cX4_post 25 = .ok (.aload_n 0, 1) := by decide +kernel
theorem dX4_post_26 : decode cX4_post 26 = .ok (.getfield 50, 3) := by decide +kernel
theorem dX4_post_29 : decode cX4_post 29 = .ok (.iload_n 1, 1) := by decide +kernel
theorem dX4_post_30 : decode cX4_post 30 = .ok (.iastore, 1) := by decide +kernel
theorem dX4_post_31 : decode cX4_post 31 = .ok (.aload_n 0, 1) := by decide +kernel
theorem dX4_post_32 : decode cX4_post 32 = .ok (.dup, 1) := by decide +kernel
theorem dX4_post_33 : decode cX4_post 33 = .ok (.getfield 50, 3) := by decide +kernel
theorem dX4_post_36 : decode cX4_post 36 = .ok (.iconst 1, 1) := by decide +kernel
theorem dX4_post_37 : decode cX4_post 37 = .ok (.iadd, 1) := by decide +kernel
theorem dX4_post_38 : decode cX4_post 38 = .ok (.putfield 50, 3) := by decide +kernel
theorem dX4_post_41 : decode cX4_post 41 = .ok (.aload_n 0, 1) := by decide +kernel
theorem dX4_post_42 : decode cX4_post 42 = .ok (.getfield 50, 3) := by decide +kernel
theorem dX4_post_45 : decode cX4_post 45 = .ok (.iconst 1, 1) := by decide +kernel
theorem dX4_post_46 : decode cX4_post 46 = .ok (.isub, 1) := by decide +kernel
theorem dX4_post_47 : decode cX4_post 47 = .ok (.ireturn, 1) := by decide +kernel
theorem dX4_line_0 : decode cX4_line 0 = .ok (.aload_n 0, 1) := by decide +kernel
theorem dX4_line_1 : decode cX4_line 1 = .ok (.iload_n 1, 1) := by decide +kernel
theorem dX4_line_2 : decode cX4_line 2 = .ok (.invokevirtual 61, 3) := by decide +kernel
theorem dX4_line_5 : decode cX4_line 5 = .ok (.ifCond .eq 35, 3) := by decide +kernel
theorem dX4_line_8 : decode cX4_line 8 = .ok (.aload_n 0, 1) := by decide +kernel
theorem dX4_line_9 : decode cX4_line 9 = .ok (.iload_n 2, 1) := by decide +kernel
theorem dX4_line_10 : decode cX4_line 10 = .ok (.invokevirtual 61, 3) := by decide +kernel
theorem dX4_line_13 : decode cX4_line 13 = .ok (.ifCond .eq 27, 3) := by decide +kernel
theorem dX4_line_16 : decode cX4_line 16 = .ok (.iload_n 1, 1) := by decide +kernel
theorem dX4_line_17 : decode cX4_line 17 = .ok (.iload_n 2, 1) := by decide +kernel
theorem dX4_line_18 : decode cX4_line 18 = .ok (.if_icmp .eq 22, 3) := by decide +kernel
theorem dX4_line_21 : decode cX4_line 21 = .ok (.iload_n 3, 1) := by decide +kernel
theorem dX4_line_22 : decode cX4_line 22 = .ok (.iconst 0, 1) := by decide +kernel
theorem dX4_line_23 : decode cX4_line 23 = .ok (.bipush 99, 2) := by decide +kernel
theorem dX4_line_25 : decode cX4_line 25 = .ok (.invokestatic 54, 3) := by decide +kernel
theorem dX4_line_28 : decode cX4_line 28 = .ok (.ifCond .eq 12, 3) := by decide +kernel
theorem dX4_line_31 : decode cX4_line 31 = .ok (.aload_n 0, 1) := by decide +kernel
theorem dX4_line_32 : decode cX4_line 32 = .ok (.getfield 58, 3) := by decide +kernel
theorem dX4_line_35 : decode cX4_line 35 = .ok (.bipush 24, 2) := by decide +kernel
theorem dX4_line_37 : decode cX4_line 37 = .ok (.if_icmp .ne 5, 3) := by decide +kernel
theorem dX4_line_40 : decode cX4_line 40 = .ok (.iconst (-1), 1) := by decide +kernel
theorem dX4_line_41 : decode cX4_line 41 = .ok (.ireturn, 1) := by decide +kernel
theorem dX4_line_42 : decode cX4_line 42 = .ok (.aload_n 0, 1) := by decide +kernel
theorem dX4_line_43 : decode cX4_line 43 = .ok (.getfield 17, 3) := by decide +kernel
theorem dX4_line_46 : decode cX4_line 46 = .ok (.aload_n 0, 1) := by decide +kernel
theorem dX4_line_47 : decode cX4_line 47 = .ok (.getfield 58, 3) := by decide +kernel
theorem dX4_line_50 : decode cX4_line 50 = .ok (.iload_n 1, 1) := by decide +kernel
theorem dX4_line_51 : decode cX4_line 51 = .ok (.iastore, 1) := by decide +kernel
theorem dX4_line_52 : decode cX4_line 52 = .ok (.aload_n 0, 1) := by decide +kernel
theorem dX4_line_53 : decode cX4_line 53 = .ok (.getfield 20, 3) := by decide +kernel
theorem dX4_line_56 : decode cX4_line 56 = .ok (.aload_n 0, 1) := by decide +kernel
theorem dX4_line_57 : decode cX4_line 57 = .ok (.getfield 58, 3) := by decide +kernel
theorem dX4_line_60 : decode cX4_line 60 = .ok (.iload_n 2, 1) := by decide +kernel
theorem dX4_line_61 : decode cX4_line 61 = .ok (.iastore, 1) := by decide +kernel
theorem dX4_line_62 : decode cX4_line 62 = .ok (.aload_n 0, 1) := by decide +kernel
theorem dX4_line_63 : decode cX4_line 63 = .ok (.getfield 23, 3) := by decide +kernel
theorem dX4_line_66 : decode cX4_line 66 = .ok (.aload_n 0, 1) := by decide +kernel
theorem dX4_line_67 : decode cX4_line 67 = .ok (.getfield 58, 3) := by decide +kernel
theorem dX4_line_70 : decode cX4_line 70 = .ok (.iload_n 3, 1) := by decide +kernel
theorem dX4_line_71 : decode cX4_line 71 = .ok (.iastore, 1) := by decide +kernel
theorem dX4_line_72 : decode cX4_line 72 = .ok (.aload_n 0, 1) := by decide +kernel
theorem dX4_line_73 : decode cX4_line 73 = .ok (.getfield 26, 3) := by decide +kernel
theorem dX4_line_76 : decode cX4_line 76 = .ok (.aload_n 0, 1) := by decide +kernel
theorem dX4_line_77 : decode cX4_line 77 = .ok (.getfield 58, 3) := by decide +kernel
theorem dX4_line_80 : decode cX4_line 80 = .ok (.iload 4, 2) := by decide +kernel
theorem dX4_line_82 : decode cX4_line 82 = .ok (.bastore, 1) := by decide +kernel
theorem dX4_line_83 : decode cX4_line 83 = .ok (.aload_n 0, 1) := by decide +kernel
theorem dX4_line_84 : decode cX4_line 84 = .ok (.dup, 1) := by decide +kernel
theorem dX4_line_85 : decode cX4_line 85 = .ok (.getfield 58, 3) := by decide +kernel
theorem dX4_line_88 : decode cX4_line 88 = .ok (.iconst 1, 1) := by decide +kernel
theorem dX4_line_89 : decode cX4_line 89 = .ok (.iadd, 1) := by decide +kernel
theorem dX4_line_90 : decode cX4_line 90 = .ok (.putfield 58, 3) := by decide +kernel
theorem dX4_line_93 : decode cX4_line 93 = .ok (.aload_n 0, 1) := by decide +kernel
theorem dX4_line_94 : decode cX4_line 94 = .ok (.getfield 58, 3) := by decide +kernel
theorem dX4_line_97 : decode cX4_line 97 = .ok (.iconst 1, 1) := by decide +kernel
theorem dX4_line_98 : decode cX4_line 98 = .ok (.isub, 1) := by decide +kernel
theorem dX4_line_99 : decode cX4_line 99 = .ok (.ireturn, 1) := by decide +kernel
theorem dX4_end_0 : decode cX4_end 0 = .ok (.aload_n 0, 1) := by decide +kernel
theorem dX4_end_1 : decode cX4_end 1 = .ok (.iload_n 1, 1) := by decide +kernel
theorem dX4_end_2 : decode cX4_end 2 = .ok (.invokevirtual 65, 3) := by decide +kernel
theorem dX4_end_5 : decode cX4_end 5 = .ok (.ifCond .ne 5, 3) := by decide +kernel
theorem dX4_end_8 : decode cX4_end 8 = .ok (.iconst 0, 1) := by decide +kernel
theorem dX4_end_9 : decode cX4_end 9 = .ok (.ireturn, 1) := by decide +kernel
theorem dX4_end_10 : decode cX4_end 10 = .ok (.aload_n 0, 1) := by decide +kernel
theorem dX4_end_11 : decode cX4_end 11 = .ok (.getfield 29, 3) := by decide +kernel
theorem dX4_end_14 : decode cX4_end 14 = .ok (.iload_n 1, 1) := by decide +kernel
theorem dX4_end_15 : decode cX4_end 15 = .ok (.iconst 1, 1) := by decide +kernel
theorem dX4_end_16 : decode cX4_end 16 = .ok (.bastore, 1) := by decide +kernel
theorem dX4_end_17 : decode cX4_end 17 = .ok (.iconst 1, 1) := by decide +kernel
theorem dX4_end_18 : decode cX4_end 18 = .ok (.ireturn, 1) := by decide +kernel
theorem dX4_terminal_0 : decode cX4_terminal 0 = .ok (.aload_n 0, 1) := by decide +kernel
theorem dX4_terminal_1 : decode cX4_terminal 1 = .ok (.iload_n 1, 1) := by decide +kernel
theorem dX4_terminal_2 : decode cX4_terminal 2 = .ok (.invokevirtual 61, 3) := by decide +kernel
theorem dX4_terminal_5 : decode cX4_terminal 5 = .ok (.ifCond .eq 13, 3) := by decide +kernel
theorem dX4_terminal_8 : decode cX4_terminal 8 = .ok (.aload_n 0, 1) := by decide +kernel
theorem dX4_terminal_9 : decode cX4_terminal 9 = .ok (.getfield 13, 3) := by decide +kernel
theorem dX4_terminal_12 : decode cX4_terminal 12 = .ok (.iload_n 1, 1) := by decide +kernel
theorem dX4_terminal_13 : decode cX4_terminal 13 = .ok (.baload, 1) := by decide +kernel
theorem dX4_terminal_14 : decode cX4_terminal 14 = .ok (.iload_n 2, 1) := by decide +kernel
theorem dX4_terminal_15 : decode cX4_terminal 15 = .ok (.if_icmp .ne 5, 3) := by decide +kernel
theorem dX4_terminal_18 : decode cX4_terminal 18 = .ok (.iconst 0, 1) := by decide +kernel
theorem dX4_terminal_19 : decode cX4_terminal 19 = .ok (.ireturn, 1) := by decide +kernel
theorem dX4_terminal_20 : decode cX4_terminal 20 = .ok (.aload_n 0, 1) := by decide +kernel
theorem dX4_terminal_21 : decode cX4_terminal 21 = .ok (.getfield 13, 3) := by decide +kernel
theorem dX4_terminal_24 : decode cX4_terminal 24 = .ok (.iload_n 1, 1) := by decide +kernel
theorem dX4_terminal_25 : decode cX4_terminal 25 = .ok (.iload_n 2, 1) := by decide +kernel
theorem dX4_terminal_26 : decode cX4_terminal 26 = .ok (.bastore, 1) := by decide +kernel
theorem dX4_terminal_27 : decode cX4_terminal 27 = .ok (.iconst 1, 1) := by decide +kernel
theorem dX4_terminal_28 : decode cX4_terminal 28 = .ok (.ireturn, 1) := by decide +kernel
theorem dX4_pairOf_0 : decode cX4_pairOf 0 = .ok (.iconst 0, 1) := by decide +kernel
theorem dX4_pairOf_1 : decode cX4_pairOf 1 = .ok (.istore_n 3, 1) := by decide +kernel
theorem dX4_pairOf_2 : decode cX4_pairOf 2 = .ok (.iload_n 3, 1) := by decide +kernel
theorem dX4_pairOf_3 : decode cX4_pairOf 3 = .ok (.aload_n 0, 1) := by decide +kernel
theorem dX4_pairOf_4 : decode cX4_pairOf 4 = .ok (.getfield 68, 3) := by decide +kernel
theorem dX4_pairOf_7 : decode cX4_pairOf 7 = .ok (.if_icmp .ge 51, 3) := by decide +kernel
theorem dX4_pairOf_10 : decode cX4_pairOf 10 = .ok (.aload_n 0, 1) := by decide +kernel
theorem dX4_pairOf_11 : decode cX4_pairOf 11 = .ok (.getfield 32, 3) := by decide +kernel
theorem dX4_pairOf_14 : decode cX4_pairOf 14 = .ok (.iload_n 3, 1) := by decide +kernel
theorem dX4_pairOf_15 : decode cX4_pairOf 15 = .ok (.iaload, 1) := by decide +kernel
theorem dX4_pairOf_16 : decode cX4_pairOf 16 = .ok (.iload_n 1, 1) := by decide +kernel
theorem dX4_pairOf_17 : decode cX4_pairOf 17 = .ok (.if_icmp .ne 13, 3) := by decide +kernel
theorem dX4_pairOf_20 : decode cX4_pairOf 20 = .ok (.aload_n 0, 1) := by decide +kernel
theorem dX4_pairOf_21 : decode cX4_pairOf 21 = .ok (.getfield 35, 3) := by decide +kernel
theorem dX4_pairOf_24 : decode cX4_pairOf 24 = .ok (.iload_n 3, 1) := by decide +kernel
theorem dX4_pairOf_25 : decode cX4_pairOf 25 = .ok (.iaload, 1) := by decide +kernel
theorem dX4_pairOf_26 : decode cX4_pairOf 26 = .ok (.iload_n 2, 1) := by decide +kernel
theorem dX4_pairOf_27 : decode cX4_pairOf 27 = .ok (.if_icmp .eq 23, 3) := by decide +kernel
theorem dX4_pairOf_30 : decode cX4_pairOf 30 = .ok (.aload_n 0, 1) := by decide +kernel
theorem dX4_pairOf_31 : decode cX4_pairOf 31 = .ok (.getfield 32, 3) := by decide +kernel
theorem dX4_pairOf_34 : decode cX4_pairOf 34 = .ok (.iload_n 3, 1) := by decide +kernel
theorem dX4_pairOf_35 : decode cX4_pairOf 35 = .ok (.iaload, 1) := by decide +kernel
theorem dX4_pairOf_36 : decode cX4_pairOf 36 = .ok (.iload_n 2, 1) := by decide +kernel
theorem dX4_pairOf_37 : decode cX4_pairOf 37 = .ok (.if_icmp .ne 15, 3) := by decide +kernel
theorem dX4_pairOf_40 : decode cX4_pairOf 40 = .ok (.aload_n 0, 1) := by decide +kernel
theorem dX4_pairOf_41 : decode cX4_pairOf 41 = .ok (.getfield 35, 3) := by decide +kernel
theorem dX4_pairOf_44 : decode cX4_pairOf 44 = .ok (.iload_n 3, 1) := by decide +kernel
theorem dX4_pairOf_45 : decode cX4_pairOf 45 = .ok (.iaload, 1) := by decide +kernel
theorem dX4_pairOf_46 : decode cX4_pairOf 46 = .ok (.iload_n 1, 1) := by decide +kernel
theorem dX4_pairOf_47 : decode cX4_pairOf 47 = .ok (.if_icmp .ne 5, 3) := by decide +kernel
theorem dX4_pairOf_50 : decode cX4_pairOf 50 = .ok (.iload_n 3, 1) := by decide +kernel
theorem dX4_pairOf_51 : decode cX4_pairOf 51 = .ok (.ireturn, 1) := by decide +kernel
theorem dX4_pairOf_52 : decode cX4_pairOf 52 = .ok (.iinc 3 1, 3) := by decide +kernel
theorem dX4_pairOf_55 : decode cX4_pairOf 55 = .ok (.goto (-53), 3) := by decide +kernel
theorem dX4_pairOf_58 : decode cX4_pairOf 58 = .ok (.iconst (-1), 1) := by decide +kernel
theorem dX4_pairOf_59 : decode cX4_pairOf 59 = .ok (.ireturn, 1) := by decide +kernel
theorem dX4_pair_0 : decode cX4_pair 0 = .ok (.aload_n 0, 1) := by decide +kernel
theorem dX4_pair_1 : decode cX4_pair 1 = .ok (.iload_n 1, 1) := by decide +kernel
theorem dX4_pair_2 : decode cX4_pair 2 = .ok (.invokevirtual 61, 3) := by decide +kernel
theorem dX4_pair_5 : decode cX4_pair 5 = .ok (.ifCond .eq 35, 3) := by decide +kernel
theorem dX4_pair_8 : decode cX4_pair 8 = .ok (.aload_n 0, 1) := by decide +kernel
theorem dX4_pair_9 : decode cX4_pair 9 = .ok (.iload_n 2, 1) := by decide +kernel
theorem dX4_pair_10 : decode cX4_pair 10 = .ok (.invokevirtual 61, 3) := by decide +kernel
theorem dX4_pair_13 : decode cX4_pair 13 = .ok (.ifCond .eq 27, 3) := by decide +kernel
theorem dX4_pair_16 : decode cX4_pair 16 = .ok (.iload_n 1, 1) := by decide +kernel
theorem dX4_pair_17 : decode cX4_pair 17 = .ok (.iload_n 2, 1) := by decide +kernel
theorem dX4_pair_18 : decode cX4_pair 18 = .ok (.if_icmp .eq 22, 3) := by decide +kernel
theorem dX4_pair_21 : decode cX4_pair 21 = .ok (.aload_n 0, 1) := by decide +kernel
theorem dX4_pair_22 : decode cX4_pair 22 = .ok (.iload_n 1, 1) := by decide +kernel
theorem dX4_pair_23 : decode cX4_pair 23 = .ok (.iload_n 2, 1) := by decide +kernel
theorem dX4_pair_24 : decode cX4_pair 24 = .ok (.invokevirtual 71, 3) := by decide +kernel
theorem dX4_pair_27 : decode cX4_pair 27 = .ok (.iconst (-1), 1) := by decide +kernel
theorem dX4_pair_28 : decode cX4_pair 28 = .ok (.if_icmp .ne 12, 3) := by decide +kernel
theorem dX4_pair_31 : decode cX4_pair 31 = .ok (.aload_n 0, 1) := by decide +kernel
theorem dX4_pair_32 : decode cX4_pair 32 = .ok (.getfield 68, 3) := by decide +kernel
theorem dX4_pair_35 : decode cX4_pair 35 = .ok (.bipush 8, 2) := by decide +kernel
theorem dX4_pair_37 : decode cX4_pair 37 = .ok (.if_icmp .ne 5, 3) := by decide +kernel
theorem dX4_pair_40 : decode cX4_pair 40 = .ok (.iconst 0, 1) := by decide +kernel
theorem dX4_pair_41 : decode cX4_pair 41 = .ok (.ireturn, 1) := by decide +kernel
theorem dX4_pair_42 : decode cX4_pair 42 = .ok (.aload_n 0, 1) := by decide +kernel
theorem dX4_pair_43 : decode cX4_pair 43 = .ok (.getfield 32, 3) := by decide +kernel
theorem dX4_pair_46 : decode cX4_pair 46 = .ok (.aload_n 0, 1) := by decide +kernel
theorem dX4_pair_47 : decode cX4_pair 47 = .ok (.getfield 68, 3) := by decide +kernel
theorem dX4_pair_50 : decode cX4_pair 50 = .ok (.iload_n 1, 1) := by decide +kernel
theorem dX4_pair_51 : decode cX4_pair 51 = .ok (.iastore, 1) := by decide +kernel
theorem dX4_pair_52 : decode cX4_pair 52 = .ok (.aload_n 0, 1) := by decide +kernel
theorem dX4_pair_53 : decode cX4_pair 53 = .ok (.getfield 35, 3) := by decide +kernel
theorem dX4_pair_56 : decode cX4_pair 56 = .ok (.aload_n 0, 1) := by decide +kernel
theorem dX4_pair_57 : decode cX4_pair 57 = .ok (.getfield 68, 3) := by decide +kernel
theorem dX4_pair_60 : decode cX4_pair 60 = .ok (.iload_n 2, 1) := by decide +kernel
theorem dX4_pair_61 : decode cX4_pair 61 = .ok (.iastore, 1) := by decide +kernel
theorem dX4_pair_62 : decode cX4_pair 62 = .ok (.aload_n 0, 1) := by decide +kernel
theorem dX4_pair_63 : decode cX4_pair 63 = .ok (.dup, 1) := by decide +kernel
theorem dX4_pair_64 : decode cX4_pair 64 = .ok (.getfield 68, 3) := by decide +kernel
theorem dX4_pair_67 : decode cX4_pair 67 = .ok (.iconst 1, 1) := by decide +kernel
theorem dX4_pair_68 : decode cX4_pair 68 = .ok (.iadd, 1) := by decide +kernel
theorem dX4_pair_69 : decode cX4_pair 69 = .ok (.putfield 68, 3) := by decide +kernel
theorem dX4_pair_72 : decode cX4_pair 72 = .ok (.iconst 1, 1) := by decide +kernel
theorem dX4_pair_73 : decode cX4_pair 73 = .ok (.ireturn, 1) := by decide +kernel
theorem dX4_unpair_0 : decode cX4_unpair 0 = .ok (.aload_n 0, 1) := by decide +kernel
theorem dX4_unpair_1 : decode cX4_unpair 1 = .ok (.iload_n 1, 1) := by decide +kernel
theorem dX4_unpair_2 : decode cX4_unpair 2 = .ok (.iload_n 2, 1) := by decide +kernel
theorem dX4_unpair_3 : decode cX4_unpair 3 = .ok (.invokevirtual 71, 3) := by decide +kernel
theorem dX4_unpair_6 : decode cX4_unpair 6 = .ok (.istore_n 3, 1) := by decide +kernel
theorem dX4_unpair_7 : decode cX4_unpair 7 = .ok (.iload_n 3, 1) := by decide +kernel
theorem dX4_unpair_8 : decode cX4_unpair 8 = .ok (.iconst (-1), 1) := by decide +kernel
theorem dX4_unpair_9 : decode cX4_unpair 9 = .ok (.if_icmp .ne 5, 3) := by decide +kernel
theorem dX4_unpair_12 : decode cX4_unpair 12 = .ok (.iconst 0, 1) := by decide +kernel
theorem dX4_unpair_13 : decode cX4_unpair 13 = .ok (.ireturn, 1) := by decide +kernel
theorem dX4_unpair_14 : decode cX4_unpair 14 = .ok (.aload_n 0, 1) := by decide +kernel
theorem dX4_unpair_15 : decode cX4_unpair 15 = .ok (.dup, 1) := by decide +kernel
theorem dX4_unpair_16 : decode cX4_unpair 16 = .ok (.getfield 68, 3) := by decide +kernel
theorem dX4_unpair_19 : decode cX4_unpair 19 = .ok (.iconst 1, 1) := by decide +kernel
theorem dX4_unpair_20 : decode cX4_unpair 20 = .ok (.isub, 1) := by decide +kernel
theorem dX4_unpair_21 : decode cX4_unpair 21 = .ok (.putfield 68, 3) := by decide +kernel
theorem dX4_unpair_24 : decode cX4_unpair 24 = .ok (.aload_n 0, 1) := by decide +kernel
theorem dX4_unpair_25 : decode cX4_unpair 25 = .ok (.getfield 32, 3) := by decide +kernel
theorem dX4_unpair_28 : decode cX4_unpair 28 = .ok (.iload_n 3, 1) := by decide +kernel
theorem dX4_unpair_29 : decode cX4_unpair 29 = .ok (.aload_n 0, 1) := by decide +kernel
theorem dX4_unpair_30 : decode cX4_unpair 30 = .ok (.getfield 32, 3) := by decide +kernel
theorem dX4_unpair_33 : decode cX4_unpair 33 = .ok (.aload_n 0, 1) := by decide +kernel
theorem dX4_unpair_34 : decode cX4_unpair 34 = .ok (.getfield 68, 3) := by decide +kernel
theorem dX4_unpair_37 : decode cX4_unpair 37 = .ok (.iaload, 1) := by decide +kernel
theorem dX4_unpair_38 : decode cX4_unpair 38 = .ok (.iastore, 1) := by decide +kernel
theorem dX4_unpair_39 : decode cX4_unpair 39 = .ok (.aload_n 0, 1) := by decide +kernel
theorem dX4_unpair_40 : decode cX4_unpair 40 = .ok (.getfield 35, 3) := by decide +kernel
theorem dX4_unpair_43 : decode cX4_unpair 43 = .ok (.iload_n 3, 1) := by decide +kernel
theorem dX4_unpair_44 : decode cX4_unpair 44 = .ok (.aload_n 0, 1) := by decide +kernel
theorem dX4_unpair_45 : decode cX4_unpair 45 = .ok (.getfield 35, 3) := by decide +kernel
theorem dX4_unpair_48 : decode cX4_unpair 48 = .ok (.aload_n 0, 1) := by decide +kernel
theorem dX4_unpair_49 : decode cX4_unpair 49 = .ok (.getfield 68, 3) := by decide +kernel
theorem dX4_unpair_52 : decode cX4_unpair 52 = .ok (.iaload, 1) := by decide +kernel
theorem dX4_unpair_53 : decode cX4_unpair 53 = .ok (.iastore, 1) := by decide +kernel
theorem dX4_unpair_54 : decode cX4_unpair 54 = .ok (.iconst 1, 1) := by decide +kernel
theorem dX4_unpair_55 : decode cX4_unpair 55 = .ok (.ireturn, 1) := by decide +kernel
theorem dX4_isWanted_0 : decode cX4_isWanted 0 = .ok (.iconst 1, 1) := by decide +kernel
theorem dX4_isWanted_1 : decode cX4_isWanted 1 = .ok (.istore_n 2, 1) := by decide +kernel
theorem dX4_isWanted_2 : decode cX4_isWanted 2 = .ok (.aload_n 0, 1) := by decide +kernel
theorem dX4_isWanted_3 : decode cX4_isWanted 3 = .ok (.getfield 75, 3) := by decide +kernel
theorem dX4_isWanted_6 : decode cX4_isWanted 6 = .ok (.tableswitch 202 0 3 #[30, 57, 135, 188], 30) := by decide +kernel
theorem dX4_isWanted_36 : decode cX4_isWanted 36 = .ok (.aload_n 0, 1) := by decide +kernel
theorem dX4_isWanted_37 : decode cX4_isWanted 37 = .ok (.getfield 38, 3) := by decide +kernel
theorem dX4_isWanted_40 : decode cX4_isWanted 40 = .ok (.aload_n 0, 1) := by decide +kernel
theorem dX4_isWanted_41 : decode cX4_isWanted 41 = .ok (.getfield 78, 3) := by decide +kernel
theorem dX4_isWanted_44 : decode cX4_isWanted 44 = .ok (.iaload, 1) := by decide +kernel
theorem dX4_isWanted_45 : decode cX4_isWanted 45 = .ok (.aload_n 0, 1) := by decide +kernel
theorem dX4_isWanted_46 : decode cX4_isWanted 46 = .ok (.getfield 38, 3) := by decide +kernel
theorem dX4_isWanted_49 : decode cX4_isWanted 49 = .ok (.aload_n 0, 1) := by decide +kernel
theorem dX4_isWanted_50 : decode cX4_isWanted 50 = .ok (.getfield 81, 3) := by decide +kernel
theorem dX4_isWanted_53 : decode cX4_isWanted 53 = .ok (.iaload, 1) := by decide +kernel
theorem dX4_isWanted_54 : decode cX4_isWanted 54 = .ok (.if_icmp .eq 7, 3) := by decide +kernel
theorem dX4_isWanted_57 : decode cX4_isWanted 57 = .ok (.iconst 1, 1) := by decide +kernel
theorem dX4_isWanted_58 : decode cX4_isWanted 58 = .ok (.goto 4, 3) := by decide +kernel
theorem dX4_isWanted_61 : decode cX4_isWanted 61 = .ok (.iconst 0, 1) := by decide +kernel
theorem dX4_isWanted_62 : decode cX4_isWanted 62 = .ok (.ireturn, 1) := by decide +kernel
theorem dX4_isWanted_63 : decode cX4_isWanted 63 = .ok (.iconst 0, 1) := by decide +kernel
theorem dX4_isWanted_64 : decode cX4_isWanted 64 = .ok (.istore_n 3, 1) := by decide +kernel
theorem dX4_isWanted_65 : decode cX4_isWanted 65 = .ok (.iload_n 3, 1) := by decide +kernel
theorem dX4_isWanted_66 : decode cX4_isWanted 66 = .ok (.aload_n 0, 1) := by decide +kernel
theorem dX4_isWanted_67 : decode cX4_isWanted 67 = .ok (.getfield 50, 3) := by decide +kernel
theorem dX4_isWanted_70 : decode cX4_isWanted 70 = .ok (.if_icmp .ge 69, 3) := by decide +kernel
theorem dX4_isWanted_73 : decode cX4_isWanted 73 = .ok (.iconst 0, 1) := by decide +kernel
theorem dX4_isWanted_74 : decode cX4_isWanted 74 = .ok (.istore 4, 2) := by decide +kernel
theorem dX4_isWanted_76 : decode cX4_isWanted 76 = .ok (.iload 4, 2) := by decide +kernel
theorem dX4_isWanted_78 : decode cX4_isWanted 78 = .ok (.iload_n 3, 1) := by decide +kernel
theorem dX4_isWanted_79 : decode cX4_isWanted 79 = .ok (.if_icmp .ge 54, 3) := by decide +kernel
theorem dX4_isWanted_82 : decode cX4_isWanted 82 = .ok (.iload_n 2, 1) := by decide +kernel
theorem dX4_isWanted_83 : decode cX4_isWanted 83 = .ok (.ifCond .eq 42, 3) := by decide +kernel
theorem dX4_isWanted_86 : decode cX4_isWanted 86 = .ok (.aload_n 0, 1) := by decide +kernel
theorem dX4_isWanted_87 : decode cX4_isWanted 87 = .ok (.getfield 13, 3) := by decide +kernel
theorem dX4_isWanted_90 : decode cX4_isWanted 90 = .ok (.iload_n 3, 1) := by decide +kernel
theorem dX4_isWanted_91 : decode cX4_isWanted 91 = .ok (.baload, 1) := by decide +kernel
theorem dX4_isWanted_92 : decode cX4_isWanted 92 = .ok (.ifCond .eq 29, 3) := by decide +kernel
theorem dX4_isWanted_95 : decode cX4_isWanted 95 = .ok (.aload_n 0, 1) := by decide +kernel
theorem dX4_isWanted_96 : decode cX4_isWanted 96 = .ok (.getfield 13, 3) := by decide +kernel
theorem dX4_isWanted_99 : decode cX4_isWanted 99 = .ok (.iload 4, 2) := by decide +kernel
theorem dX4_isWanted_101 : decode cX4_isWanted 101 = .ok (.baload, 1) := by decide +kernel
theorem dX4_isWanted_102 : decode cX4_isWanted 102 = .ok (.ifCond .eq 19, 3) := by decide +kernel
theorem dX4_isWanted_105 : decode cX4_isWanted 105 = .ok (.aload_n 0, 1) := by decide +kernel
theorem dX4_isWanted_106 : decode cX4_isWanted 106 = .ok (.getfield 38, 3) := by decide +kernel
theorem dX4_isWanted_109 : decode cX4_isWanted 109 = .ok (.iload_n 3, 1) := by decide +kernel
theorem dX4_isWanted_110 : decode cX4_isWanted 110 = .ok (.iaload, 1) := by decide +kernel
theorem dX4_isWanted_111 : decode cX4_isWanted 111 = .ok (.aload_n 0, 1) := by decide +kernel
theorem dX4_isWanted_112 : decode cX4_isWanted 112 = .ok (.getfield 38, 3) := by decide +kernel
theorem dX4_isWanted_115 : decode cX4_isWanted 115 = .ok (.iload 4, 2) := by decide +kernel
theorem dX4_isWanted_117 : decode cX4_isWanted 117 = .ok (.iaload, 1) := by decide +kernel
theorem dX4_isWanted_118 : decode cX4_isWanted 118 = .ok (.if_icmp .eq 7, 3) := by decide +kernel
theorem dX4_isWanted_121 : decode cX4_isWanted 121 = .ok (.iconst 1, 1) := by decide +kernel
theorem dX4_isWanted_122 : decode cX4_isWanted 122 = .ok (.goto 4, 3) := by decide +kernel
theorem dX4_isWanted_125 : decode cX4_isWanted 125 = .ok (.iconst 0, 1) := by decide +kernel
theorem dX4_isWanted_126 : decode cX4_isWanted 126 = .ok (.istore_n 2, 1) := by decide +kernel
theorem dX4_isWanted_127 : decode cX4_isWanted 127 = .ok (.iinc 4 1, 3) := by decide +kernel
theorem dX4_isWanted_130 : decode cX4_isWanted 130 = .ok (.goto (-54), 3) := by decide +kernel
theorem dX4_isWanted_133 : decode cX4_isWanted 133 = .ok (.iinc 3 1, 3) := by decide +kernel
theorem dX4_isWanted_136 : decode cX4_isWanted 136 = .ok (.goto (-71), 3) := by decide +kernel
theorem dX4_isWanted_139 : decode cX4_isWanted 139 = .ok (.iload_n 2, 1) := by decide +kernel
theorem dX4_isWanted_140 : decode cX4_isWanted 140 = .ok (.ireturn, 1) := by decide +kernel
theorem dX4_isWanted_141 : decode cX4_isWanted 141 = .ok (.iconst 0, 1) := by decide +kernel
theorem dX4_isWanted_142 : decode cX4_isWanted 142 = .ok (.istore_n 3, 1) := by decide +kernel
theorem dX4_isWanted_143 : decode cX4_isWanted 143 = .ok (.iload_n 3, 1) := by decide +kernel
theorem dX4_isWanted_144 : decode cX4_isWanted 144 = .ok (.aload_n 0, 1) := by decide +kernel
theorem dX4_isWanted_145 : decode cX4_isWanted 145 = .ok (.getfield 68, 3) := by decide +kernel
theorem dX4_isWanted_148 : decode cX4_isWanted 148 = .ok (.if_icmp .ge 44, 3) := by decide +kernel
theorem dX4_isWanted_151 : decode cX4_isWanted 151 = .ok (.iload_n 2, 1) := by decide +kernel
theorem dX4_isWanted_152 : decode cX4_isWanted 152 = .ok (.ifCond .eq 32, 3) := by decide +kernel
theorem dX4_isWanted_155 : decode cX4_isWanted 155 = .ok (.aload_n 0, 1) := by decide +kernel
theorem dX4_isWanted_156 : decode cX4_isWanted 156 = .ok (.getfield 38, 3) := by decide +kernel
theorem dX4_isWanted_159 : decode cX4_isWanted 159 = .ok (.aload_n 0, 1) := by decide +kernel
theorem dX4_isWanted_160 : decode cX4_isWanted 160 = .ok (.getfield 32, 3) := by decide +kernel
theorem dX4_isWanted_163 : decode cX4_isWanted 163 = .ok (.iload_n 3, 1) := by decide +kernel
theorem dX4_isWanted_164 : decode cX4_isWanted 164 = .ok (.iaload, 1) := by decide +kernel
theorem dX4_isWanted_165 : decode cX4_isWanted 165 = .ok (.iaload, 1) := by decide +kernel
theorem dX4_isWanted_166 : decode cX4_isWanted 166 = .ok (.aload_n 0, 1) := by decide +kernel
theorem dX4_isWanted_167 : decode cX4_isWanted 167 = .ok (.getfield 38, 3) := by decide +kernel
theorem dX4_isWanted_170 : decode cX4_isWanted 170 = .ok (.aload_n 0, 1) := by decide +kernel
theorem dX4_isWanted_171 : decode cX4_isWanted 171 = .ok (.getfield 35, 3) := by decide +kernel
theorem dX4_isWanted_174 : decode cX4_isWanted 174 = .ok (.iload_n 3, 1) := by decide +kernel
theorem dX4_isWanted_175 : decode cX4_isWanted 175 = .ok (.iaload, 1) := by decide +kernel
theorem dX4_isWanted_176 : decode cX4_isWanted 176 = .ok (.iaload, 1) := by decide +kernel
theorem dX4_isWanted_177 : decode cX4_isWanted 177 = .ok (.if_icmp .eq 7, 3) := by decide +kernel
theorem dX4_isWanted_180 : decode cX4_isWanted 180 = .ok (.iconst 1, 1) := by decide +kernel
theorem dX4_isWanted_181 : decode cX4_isWanted 181 = .ok (.goto 4, 3) := by decide +kernel
theorem dX4_isWanted_184 : decode cX4_isWanted 184 = .ok (.iconst 0, 1) := by decide +kernel
theorem dX4_isWanted_185 : decode cX4_isWanted 185 = .ok (.istore_n 2, 1) := by decide +kernel
theorem dX4_isWanted_186 : decode cX4_isWanted 186 = .ok (.iinc 3 1, 3) := by decide +kernel
theorem dX4_isWanted_189 : decode cX4_isWanted 189 = .ok (.goto (-46), 3) := by decide +kernel
theorem dX4_isWanted_192 : decode cX4_isWanted 192 = .ok (.iload_n 2, 1) := by decide +kernel
theorem dX4_isWanted_193 : decode cX4_isWanted 193 = .ok (.ireturn, 1) := by decide +kernel
theorem dX4_isWanted_194 : decode cX4_isWanted 194 = .ok (.iload_n 1, 1) := by decide +kernel
theorem dX4_isWanted_195 : decode cX4_isWanted 195 = .ok (.aload_n 0, 1) := by decide +kernel
theorem dX4_isWanted_196 : decode cX4_isWanted 196 = .ok (.getfield 84, 3) := by decide +kernel
theorem dX4_isWanted_199 : decode cX4_isWanted 199 = .ok (.if_icmp .ne 7, 3) := by decide +kernel
theorem dX4_isWanted_202 : decode cX4_isWanted 202 = .ok (.iconst 1, 1) := by decide +kernel
theorem dX4_isWanted_203 : decode cX4_isWanted 203 = .ok (.goto 4, 3) := by decide +kernel
theorem dX4_isWanted_206 : decode cX4_isWanted 206 = .ok (.iconst 0, 1) := by decide +kernel
theorem dX4_isWanted_207 : decode cX4_isWanted 207 = .ok (.ireturn, 1) := by decide +kernel
theorem dX4_isWanted_208 : decode cX4_isWanted 208 = .ok (.iconst 1, 1) := by decide +kernel
theorem dX4_isWanted_209 : decode cX4_isWanted 209 = .ok (.ireturn, 1) := by decide +kernel
theorem dX4_sum_0 : decode cX4_sum 0 = .ok (.iconst 0, 1) := by decide +kernel
theorem dX4_sum_1 : decode cX4_sum 1 = .ok (.istore_n 1, 1) := by decide +kernel
theorem dX4_sum_2 : decode cX4_sum 2 = .ok (.iconst 0, 1) := by decide +kernel
theorem dX4_sum_3 : decode cX4_sum 3 = .ok (.istore_n 2, 1) := by decide +kernel
theorem dX4_sum_4 : decode cX4_sum 4 = .ok (.iload_n 2, 1) := by decide +kernel
theorem dX4_sum_5 : decode cX4_sum 5 = .ok (.aload_n 0, 1) := by decide +kernel
theorem dX4_sum_6 : decode cX4_sum 6 = .ok (.getfield 58, 3) := by decide +kernel
theorem dX4_sum_9 : decode cX4_sum 9 = .ok (.if_icmp .ge 91, 3) := by decide +kernel
theorem dX4_sum_12 : decode cX4_sum 12 = .ok (.aload_n 0, 1) := by decide +kernel
theorem dX4_sum_13 : decode cX4_sum 13 = .ok (.getfield 29, 3) := by decide +kernel
theorem dX4_sum_16 : decode cX4_sum 16 = .ok (.iload_n 2, 1) := by decide +kernel
theorem dX4_sum_17 : decode cX4_sum 17 = .ok (.baload, 1) := by decide +kernel
theorem dX4_sum_18 : decode cX4_sum 18 = .ok (.ifCond .eq 6, 3) := by decide +kernel
theorem dX4_sum_21 : decode cX4_sum 21 = .ok (.goto 73, 3) := by decide +kernel
theorem dX4_sum_24 : decode cX4_sum 24 = .ok (.aload_n 0, 1) := by decide +kernel
theorem dX4_sum_25 : decode cX4_sum 25 = .ok (.getfield 38, 3) := by decide +kernel
theorem dX4_sum_28 : decode cX4_sum 28 = .ok (.aload_n 0, 1) := by decide +kernel
theorem dX4_sum_29 : decode cX4_sum 29 = .ok (.getfield 17, 3) := by decide +kernel
theorem dX4_sum_32 : decode cX4_sum 32 = .ok (.iload_n 2, 1) := by decide +kernel
theorem dX4_sum_33 : decode cX4_sum 33 = .ok (.iaload, 1) := by decide +kernel
theorem dX4_sum_34 : decode cX4_sum 34 = .ok (.iaload, 1) := by decide +kernel
theorem dX4_sum_35 : decode cX4_sum 35 = .ok (.aload_n 0, 1) := by decide +kernel
theorem dX4_sum_36 : decode cX4_sum 36 = .ok (.getfield 38, 3) := by decide +kernel
theorem dX4_sum_39 : decode cX4_sum 39 = .ok (.aload_n 0, 1) := by decide +kernel
theorem dX4_sum_40 : decode cX4_sum 40 = .ok (.getfield 20, 3) := by decide +kernel
theorem dX4_sum_43 : decode cX4_sum 43 = .ok (.iload_n 2, 1) := by decide +kernel
theorem dX4_sum_44 : decode cX4_sum 44 = .ok (.iaload, 1) := by decide +kernel
theorem dX4_sum_45 : decode cX4_sum 45 = .ok (.iaload, 1) := by decide +kernel
theorem dX4_sum_46 : decode cX4_sum 46 = .ok (.if_icmp .eq 7, 3) := by decide +kernel
theorem dX4_sum_49 : decode cX4_sum 49 = .ok (.iconst 1, 1) := by decide +kernel
theorem dX4_sum_50 : decode cX4_sum 50 = .ok (.goto 4, 3) := by decide +kernel
theorem dX4_sum_53 : decode cX4_sum 53 = .ok (.iconst 0, 1) := by decide +kernel
theorem dX4_sum_54 : decode cX4_sum 54 = .ok (.istore_n 3, 1) := by decide +kernel
theorem dX4_sum_55 : decode cX4_sum 55 = .ok (.iload_n 1, 1) := by decide +kernel
theorem dX4_sum_56 : decode cX4_sum 56 = .ok (.iload_n 3, 1) := by decide +kernel
theorem dX4_sum_57 : decode cX4_sum 57 = .ok (.aload_n 0, 1) := by decide +kernel
theorem dX4_sum_58 : decode cX4_sum 58 = .ok (.getfield 75, 3) := by decide +kernel
theorem dX4_sum_61 : decode cX4_sum 61 = .ok (.iconst 4, 1) := by decide +kernel
theorem dX4_sum_62 : decode cX4_sum 62 = .ok (.if_icmp .ne 12, 3) := by decide +kernel
theorem dX4_sum_65 : decode cX4_sum 65 = .ok (.aload_n 0, 1) := by decide +kernel
theorem dX4_sum_66 : decode cX4_sum 66 = .ok (.getfield 26, 3) := by decide +kernel
theorem dX4_sum_69 : decode cX4_sum 69 = .ok (.iload_n 2, 1) := by decide +kernel
theorem dX4_sum_70 : decode cX4_sum 70 = .ok (.baload, 1) := by decide +kernel
theorem dX4_sum_71 : decode cX4_sum 71 = .ok (.ifCond .eq 7, 3) := by decide +kernel
theorem dX4_sum_74 : decode cX4_sum 74 = .ok (.iconst 1, 1) := by decide +kernel
theorem dX4_sum_75 : decode cX4_sum 75 = .ok (.goto 4, 3) := by decide +kernel
theorem dX4_sum_78 : decode cX4_sum 78 = .ok (.iconst 0, 1) := by decide +kernel
theorem dX4_sum_79 : decode cX4_sum 79 = .ok (.if_icmp .ne 12, 3) := by decide +kernel
theorem dX4_sum_82 : decode cX4_sum 82 = .ok (.aload_n 0, 1) := by decide +kernel
theorem dX4_sum_83 : decode cX4_sum 83 = .ok (.getfield 23, 3) := by decide +kernel
theorem dX4_sum_86 : decode cX4_sum 86 = .ok (.iload_n 2, 1) := by decide +kernel
theorem dX4_sum_87 : decode cX4_sum 87 = .ok (.iaload, 1) := by decide +kernel
theorem dX4_sum_88 : decode cX4_sum 88 = .ok (.goto 4, 3) := by decide +kernel
theorem dX4_sum_91 : decode cX4_sum 91 = .ok (.iconst 0, 1) := by decide +kernel
theorem dX4_sum_92 : decode cX4_sum 92 = .ok (.iadd, 1) := by decide +kernel
theorem dX4_sum_93 : decode cX4_sum 93 = .ok (.istore_n 1, 1) := by decide +kernel
theorem dX4_sum_94 : decode cX4_sum 94 = .ok (.iinc 2 1, 3) := by decide +kernel
theorem dX4_sum_97 : decode cX4_sum 97 = .ok (.goto (-93), 3) := by decide +kernel
theorem dX4_sum_100 : decode cX4_sum 100 = .ok (.iload_n 1, 1) := by decide +kernel
theorem dX4_sum_101 : decode cX4_sum 101 = .ok (.ireturn, 1) := by decide +kernel
theorem dX4_looks_0 : decode cX4_looks 0 = .ok (.aload_n 0, 1) := by decide +kernel
theorem dX4_looks_1 : decode cX4_looks 1 = .ok (.iload_n 1, 1) := by decide +kernel
theorem dX4_looks_2 : decode cX4_looks 2 = .ok (.invokevirtual 87, 3) := by decide +kernel
theorem dX4_looks_5 : decode cX4_looks 5 = .ok (.ifCond .ne 4, 3) := by decide +kernel
theorem dX4_looks_8 : decode cX4_looks 8 = .ok (.return_, 1) := by decide +kernel
theorem dX4_looks_9 : decode cX4_looks 9 = .ok (.aload_n 0, 1) := by decide +kernel
theorem dX4_looks_10 : decode cX4_looks 10 = .ok (.invokevirtual 90, 3) := by decide +kernel
theorem dX4_looks_13 : decode cX4_looks 13 = .ok (.istore_n 2, 1) := by decide +kernel
theorem dX4_looks_14 : decode cX4_looks 14 = .ok (.iload_n 2, 1) := by decide +kernel
theorem dX4_looks_15 : decode cX4_looks 15 = .ok (.aload_n 0, 1) := by decide +kernel
theorem dX4_looks_16 : decode cX4_looks 16 = .ok (.getfield 94, 3) := by decide +kernel
theorem dX4_looks_19 : decode cX4_looks 19 = .ok (.if_icmp .le 4, 3) := by decide +kernel
theorem dX4_looks_22 : decode cX4_looks 22 = .ok (.return_, 1) := by decide +kernel
theorem dX4_looks_23 : decode cX4_looks 23 = .ok (.iload_n 2, 1) := by decide +kernel
theorem dX4_looks_24 : decode cX4_looks 24 = .ok (.aload_n 0, 1) := by decide +kernel
theorem dX4_looks_25 : decode cX4_looks 25 = .ok (.getfield 94, 3) := by decide +kernel
theorem dX4_looks_28 : decode cX4_looks 28 = .ok (.if_icmp .ge 36, 3) := by decide +kernel
theorem dX4_looks_31 : decode cX4_looks 31 = .ok (.aload_n 0, 1) := by decide +kernel
theorem dX4_looks_32 : decode cX4_looks 32 = .ok (.iload_n 2, 1) := by decide +kernel
theorem dX4_looks_33 : decode cX4_looks 33 = .ok (.putfield 94, 3) := by decide +kernel
theorem dX4_looks_36 : decode cX4_looks 36 = .ok (.aload_n 0, 1) := by decide +kernel
theorem dX4_looks_37 : decode cX4_looks 37 = .ok (.iconst 0, 1) := by decide +kernel
theorem dX4_looks_38 : decode cX4_looks 38 = .ok (.putfield 97, 3) := by decide +kernel
theorem dX4_looks_41 : decode cX4_looks 41 = .ok (.iconst 0, 1) := by decide +kernel
theorem dX4_looks_42 : decode cX4_looks 42 = .ok (.istore_n 3, 1) := by decide +kernel
theorem dX4_looks_43 : decode cX4_looks 43 = .ok (.iload_n 3, 1) := by decide +kernel
theorem dX4_looks_44 : decode cX4_looks 44 = .ok (.aload_n 0, 1) := by decide +kernel
theorem dX4_looks_45 : decode cX4_looks 45 = .ok (.getfield 58, 3) := by decide +kernel
theorem dX4_looks_48 : decode cX4_looks 48 = .ok (.if_icmp .ge 16, 3) := by decide +kernel
theorem dX4_looks_51 : decode cX4_looks 51 = .ok (.aload_n 0, 1) := by decide +kernel
theorem dX4_looks_52 : decode cX4_looks 52 = .ok (.getfield 44, 3) := by decide +kernel
theorem dX4_looks_55 : decode cX4_looks 55 = .ok (.iload_n 3, 1) := by decide +kernel
theorem dX4_looks_56 : decode cX4_looks 56 = .ok (.iconst 0, 1) := by decide +kernel
theorem dX4_looks_57 : decode cX4_looks 57 = .ok (.iastore, 1) := by decide +kernel
theorem dX4_looks_58 : decode cX4_looks 58 = .ok (.iinc 3 1, 3) := by decide +kernel
theorem dX4_looks_61 : decode cX4_looks 61 = .ok (.goto (-18), 3) := by decide +kernel
theorem dX4_looks_64 : decode cX4_looks 64 = .ok (.aload_n 0, 1) := by decide +kernel
theorem dX4_looks_65 : decode cX4_looks 65 = .ok (.getfield 97, 3) := by decide +kernel
theorem dX4_looks_68 : decode cX4_looks 68 = .ok (.aload_n 0, 1) := by decide +kernel
theorem dX4_looks_69 : decode cX4_looks 69 = .ok (.getfield 100, 3) := by decide +kernel
theorem dX4_looks_72 : decode cX4_looks 72 = .ok (.if_icmp .ne 31, 3) := by decide +kernel
theorem dX4_looks_75 : decode cX4_looks 75 = .ok (.iconst 0, 1) := by decide +kernel
theorem dX4_looks_76 : decode cX4_looks 76 = .ok (.istore_n 3, 1) := by decide +kernel
theorem dX4_looks_77 : decode cX4_looks 77 = .ok (.iload_n 3, 1) := by decide +kernel
theorem dX4_looks_78 : decode cX4_looks 78 = .ok (.aload_n 0, 1) := by decide +kernel
theorem dX4_looks_79 : decode cX4_looks 79 = .ok (.getfield 50, 3) := by decide +kernel
theorem dX4_looks_82 : decode cX4_looks 82 = .ok (.if_icmp .ge 21, 3) := by decide +kernel
theorem dX4_looks_85 : decode cX4_looks 85 = .ok (.aload_n 0, 1) := by decide +kernel
theorem dX4_looks_86 : decode cX4_looks 86 = .ok (.getfield 41, 3) := by decide +kernel
theorem dX4_looks_89 : decode cX4_looks 89 = .ok (.iload_n 3, 1) := by decide +kernel
theorem dX4_looks_90 : decode cX4_looks 90 = .ok (.aload_n 0, 1) := by decide +kernel
theorem dX4_looks_91 : decode cX4_looks 91 = .ok (.getfield 38, 3) := by decide +kernel
theorem dX4_looks_94 : decode cX4_looks 94 = .ok (.iload_n 3, 1) := by decide +kernel
theorem dX4_looks_95 : decode cX4_looks 95 = .ok (.iaload, 1) := by decide +kernel
theorem dX4_looks_96 : decode cX4_looks 96 = .ok (.iastore, 1) := by decide +kernel
theorem dX4_looks_97 : decode cX4_looks 97 = .ok (.iinc 3 1, 3) := by decide +kernel
theorem dX4_looks_100 : decode cX4_looks 100 = .ok (.goto (-23), 3) := by decide +kernel
theorem dX4_looks_103 : decode cX4_looks 103 = .ok (.aload_n 0, 1) := by decide +kernel
theorem dX4_looks_104 : decode cX4_looks 104 = .ok (.dup, 1) := by decide +kernel
theorem dX4_looks_105 : decode cX4_looks 105 = .ok (.getfield 97, 3) := by decide +kernel
theorem dX4_looks_108 : decode cX4_looks 108 = .ok (.iconst 1, 1) := by decide +kernel
theorem dX4_looks_109 : decode cX4_looks 109 = .ok (.iadd, 1) := by decide +kernel
theorem dX4_looks_110 : decode cX4_looks 110 = .ok (.putfield 97, 3) := by decide +kernel
theorem dX4_looks_113 : decode cX4_looks 113 = .ok (.iconst 0, 1) := by decide +kernel
theorem dX4_looks_114 : decode cX4_looks 114 = .ok (.istore_n 3, 1) := by decide +kernel
theorem dX4_looks_115 : decode cX4_looks 115 = .ok (.iload_n 3, 1) := by decide +kernel
theorem dX4_looks_116 : decode cX4_looks 116 = .ok (.aload_n 0, 1) := by decide +kernel
theorem dX4_looks_117 : decode cX4_looks 117 = .ok (.getfield 58, 3) := by decide +kernel
theorem dX4_looks_120 : decode cX4_looks 120 = .ok (.if_icmp .ge 48, 3) := by decide +kernel
theorem dX4_looks_123 : decode cX4_looks 123 = .ok (.aload_n 0, 1) := by decide +kernel
theorem dX4_looks_124 : decode cX4_looks 124 = .ok (.getfield 44, 3) := by decide +kernel
theorem dX4_looks_127 : decode cX4_looks 127 = .ok (.iload_n 3, 1) := by decide +kernel
theorem dX4_looks_128 : decode cX4_looks 128 = .ok (.dup2, 1) := by decide +kernel
theorem dX4_looks_129 : decode cX4_looks 129 = .ok (.iaload, 1) := by decide +kernel
theorem dX4_looks_130 : decode cX4_looks 130 = .ok (.aload_n 0, 1) := by decide +kernel
theorem dX4_looks_131 : decode cX4_looks 131 = .ok (.getfield 38, 3) := by decide +kernel
theorem dX4_looks_134 : decode cX4_looks 134 = .ok (.aload_n 0, 1) := by decide +kernel
theorem dX4_looks_135 : decode cX4_looks 135 = .ok (.getfield 17, 3) := by decide +kernel
theorem dX4_looks_138 : decode cX4_looks 138 = .ok (.iload_n 3, 1) := by decide +kernel
theorem dX4_looks_139 : decode cX4_looks 139 = .ok (.iaload, 1) := by decide +kernel
theorem dX4_looks_140 : decode cX4_looks 140 = .ok (.iaload, 1) := by decide +kernel
theorem dX4_looks_141 : decode cX4_looks 141 = .ok (.aload_n 0, 1) := by decide +kernel
theorem dX4_looks_142 : decode cX4_looks 142 = .ok (.getfield 38, 3) := by decide +kernel
theorem dX4_looks_145 : decode cX4_looks 145 = .ok (.aload_n 0, 1) := by decide +kernel
theorem dX4_looks_146 : decode cX4_looks 146 = .ok (.getfield 20, 3) := by decide +kernel
theorem dX4_looks_149 : decode cX4_looks 149 = .ok (.iload_n 3, 1) := by decide +kernel
theorem dX4_looks_150 : decode cX4_looks 150 = .ok (.iaload, 1) := by decide +kernel
theorem dX4_looks_151 : decode cX4_looks 151 = .ok (.iaload, 1) := by decide +kernel
theorem dX4_looks_152 : decode cX4_looks 152 = .ok (.if_icmp .eq 7, 3) := by decide +kernel
theorem dX4_looks_155 : decode cX4_looks 155 = .ok (.iconst 1, 1) := by decide +kernel
theorem dX4_looks_156 : decode cX4_looks 156 = .ok (.goto 4, 3) := by decide +kernel
theorem dX4_looks_159 : decode cX4_looks 159 = .ok (.iconst 0, 1) := by decide +kernel
theorem dX4_looks_160 : decode cX4_looks 160 = .ok (.iadd, 1) := by decide +kernel
theorem dX4_looks_161 : decode cX4_looks 161 = .ok (.iastore, 1) := by decide +kernel
theorem dX4_looks_162 : decode cX4_looks 162 = .ok (.iinc 3 1, 3) := by decide +kernel
theorem dX4_looks_165 : decode cX4_looks 165 = .ok (.goto (-50), 3) := by decide +kernel
theorem dX4_looks_168 : decode cX4_looks 168 = .ok (.return_, 1) := by decide +kernel
