theorem dX1_hangingPieces_0 : decode cX1_hangingPieces 0 = .ok (.aload_n 0, 1) := by decide +kernel
theorem dX1_hangingPieces_1 : decode cX1_hangingPieces 1 = .ok (.iconst (-1), 1) := by decide +kernel
theorem dX1_hangingPieces_2 : decode cX1_hangingPieces 2 = .ok (.invokevirtual 55, 3) := by decide +kernel
theorem dX1_hangingPieces_5 : decode cX1_hangingPieces 5 = .ok (.iconst 0, 1) := by decide +kernel
theorem dX1_hangingPieces_6 : decode cX1_hangingPieces 6 = .ok (.istore_n 1, 1) := by decide +kernel
theorem dX1_hangingPieces_7 : decode cX1_hangingPieces 7 = .ok (.iconst 0, 1) := by decide +kernel
theorem dX1_hangingPieces_8 : decode cX1_hangingPieces 8 = .ok (.istore_n 2, 1) := by decide +kernel
theorem dX1_hangingPieces_9 : decode cX1_hangingPieces 9 = .ok (.iconst 0, 1) := by decide +kernel
theorem dX1_hangingPieces_10 : decode cX1_hangingPieces 10 = .ok (.istore_n 3, 1) := by decide +kernel
theorem dX1_hangingPieces_11 : decode cX1_hangingPieces 11 = .ok (.iload_n 3, 1) := by decide +kernel
theorem dX1_hangingPieces_12 : decode cX1_hangingPieces 12 = .ok (.aload_n 0, 1) := by decide +kernel
theorem dX1_hangingPieces_13 : decode cX1_hangingPieces 13 = .ok (.getfield 28, 3) := by decide +kernel
theorem dX1_hangingPieces_16 : decode cX1_hangingPieces 16 = .ok (.if_icmp .ge 29, 3) := by decide +kernel
theorem dX1_hangingPieces_19 : decode cX1_hangingPieces 19 = .ok (.iload_n 2, 1) := by decide +kernel
theorem dX1_hangingPieces_20 : decode cX1_hangingPieces 20 = .ok (.iload_n 3, 1) := by decide +kernel
theorem dX1_hangingPieces_21 : decode cX1_hangingPieces 21 = .ok (.invokestatic 52, 3) := by decide +kernel
theorem dX1_hangingPieces_24 : decode cX1_hangingPieces 24 = .ok (.ifCond .ne 15, 3) := by decide +kernel
theorem dX1_hangingPieces_27 : decode cX1_hangingPieces 27 = .ok (.iload_n 2, 1) := by decide +kernel
theorem dX1_hangingPieces_28 : decode cX1_hangingPieces 28 = .ok (.aload_n 0, 1) := by decide +kernel
theorem dX1_hangingPieces_29 : decode cX1_hangingPieces 29 = .ok (.iload_n 3, 1) := by decide +kernel
theorem dX1_hangingPieces_30 : decode cX1_hangingPieces 30 = .ok (.iconst 0, 1) := by decide +kernel
theorem dX1_hangingPieces_31 : decode cX1_hangingPieces 31 = .ok (.invokevirtual 59, 3) := by decide +kernel
theorem dX1_hangingPieces_34 : decode cX1_hangingPieces 34 = .ok (.ior, 1) := by decide +kernel
theorem dX1_hangingPieces_35 : decode cX1_hangingPieces 35 = .ok (.istore_n 2, 1) := by decide +kernel
theorem dX1_hangingPieces_36 : decode cX1_hangingPieces 36 = .ok (.iinc 1 1, 3) := by decide +kernel
theorem dX1_hangingPieces_39 : decode cX1_hangingPieces 39 = .ok (.iinc 3 1, 3) := by decide +kernel
theorem dX1_hangingPieces_42 : decode cX1_hangingPieces 42 = .ok (.goto (-31), 3) := by decide +kernel
theorem dX1_hangingPieces_45 : decode cX1_hangingPieces 45 = .ok (.iload_n 1, 1) := by decide +kernel
theorem dX1_hangingPieces_46 : decode cX1_hangingPieces 46 = .ok (.ireturn, 1) := by decide +kernel
theorem dX1_barringHeap_0 : decode cX1_barringHeap 0 = .ok (.aload_n 0, 1) := by decide +kernel
theorem dX1_barringHeap_1 : decode cX1_barringHeap 1 = .ok (.iload_n 1, 1) := by decide +kernel
theorem dX1_barringHeap_2 : decode cX1_barringHeap 2 = .ok (.iload_n 2, 1) := by decide +kernel
theorem dX1_barringHeap_3 : decode cX1_barringHeap 3 = .ok (.invokevirtual 45, 3) := by decide +kernel
theorem dX1_barringHeap_6 : decode cX1_barringHeap 6 = .ok (.ifCond .ne 5, 3) := by decide +kernel
theorem dX1_barringHeap_9 : decode cX1_barringHeap 9 = .ok (.iconst (-1), 1) := by decide +kernel
theorem dX1_barringHeap_10 : decode cX1_barringHeap 10 = .ok (.ireturn, 1) := by decide +kernel
theorem dX1_barringHeap_11 : decode cX1_barringHeap 11 = .ok (.aload_n 0, 1) := by decide +kernel
theorem dX1_barringHeap_12 : decode cX1_barringHeap 12 = .ok (.iconst (-1), 1) := by decide +kernel
theorem dX1_barringHeap_13 : decode cX1_barringHeap 13 = .ok (.invokevirtual 55, 3) := by decide +kernel
theorem dX1_barringHeap_16 : decode cX1_barringHeap 16 = .ok (.iconst 1, 1) := by decide +kernel
theorem dX1_barringHeap_17 : decode cX1_barringHeap 17 = .ok (.iload_n 1, 1) := by decide +kernel
theorem dX1_barringHeap_18 : decode cX1_barringHeap 18 = .ok (.ishl, 1) := by decide +kernel
theorem dX1_barringHeap_19 : decode cX1_barringHeap 19 = .ok (.iconst 1, 1) := by decide +kernel
theorem dX1_barringHeap_20 : decode cX1_barringHeap 20 = .ok (.iload_n 2, 1) := by decide +kernel
theorem dX1_barringHeap_21 : decode cX1_barringHeap 21 = .ok (.ishl, 1) := by decide +kernel
theorem dX1_barringHeap_22 : decode cX1_barringHeap 22 = .ok (.ior, 1) := by decide +kernel
theorem dX1_barringHeap_23 : decode cX1_barringHeap 23 = .ok (.istore_n 3, 1) := by decide +kernel
theorem dX1_barringHeap_24 : decode cX1_barringHeap 24 = .ok (.iconst (-1), 1) := by decide +kernel
theorem dX1_barringHeap_25 : decode cX1_barringHeap 25 = .ok (.istore 4, 2) := by decide +kernel
theorem dX1_barringHeap_27 : decode cX1_barringHeap 27 = .ok (.ldc 63, 2) := by decide +kernel
theorem dX1_barringHeap_29 : decode cX1_barringHeap 29 = .ok (.istore 5, 2) := by decide +kernel
theorem dX1_barringHeap_31 : decode cX1_barringHeap 31 = .ok (.iconst 0, 1) := by decide +kernel
theorem dX1_barringHeap_32 : decode cX1_barringHeap 32 = .ok (.istore 6, 2) := by decide +kernel
theorem dX1_barringHeap_34 : decode cX1_barringHeap 34 = .ok (.iload 6, 2) := by decide +kernel
theorem dX1_barringHeap_36 : decode cX1_barringHeap 36 = .ok (.iconst 1, 1) := by decide +kernel
theorem dX1_barringHeap_37 : decode cX1_barringHeap 37 = .ok (.aload_n 0, 1) := by decide +kernel
theorem dX1_barringHeap_38 : decode cX1_barringHeap 38 = .ok (.getfield 28, 3) := by decide +kernel
theorem dX1_barringHeap_41 : decode cX1_barringHeap 41 = .ok (.ishl, 1) := by decide +kernel
theorem dX1_barringHeap_42 : decode cX1_barringHeap 42 = .ok (.if_icmp .ge 53, 3) := by decide +kernel
theorem dX1_barringHeap_45 : decode cX1_barringHeap 45 = .ok (.iload 6, 2) := by decide +kernel
theorem dX1_barringHeap_47 : decode cX1_barringHeap 47 = .ok (.iload_n 3, 1) := by decide +kernel
theorem dX1_barringHeap_48 : decode cX1_barringHeap 48 = .ok (.iand, 1) := by decide +kernel
theorem dX1_barringHeap_49 : decode cX1_barringHeap 49 = .ok (.ifCond .ne 40, 3) := by decide +kernel
theorem dX1_barringHeap_52 : decode cX1_barringHeap 52 = .ok (.aload_n 0, 1) := by decide +kernel
theorem dX1_barringHeap_53 : decode cX1_barringHeap 53 = .ok (.iload 6, 2) := by decide +kernel
theorem dX1_barringHeap_55 : decode cX1_barringHeap 55 = .ok (.invokevirtual 64, 3) := by decide +kernel
theorem dX1_barringHeap_58 : decode cX1_barringHeap 58 = .ok (.istore 7, 2) := by decide +kernel
theorem dX1_barringHeap_60 : decode cX1_barringHeap 60 = .ok (.iload 7, 2) := by decide +kernel
theorem dX1_barringHeap_62 : decode cX1_barringHeap 62 = .ok (.iload 5, 2) := by decide +kernel
theorem dX1_barringHeap_64 : decode cX1_barringHeap 64 = .ok (.if_icmp .ge 25, 3) := by decide +kernel
theorem dX1_barringHeap_67 : decode cX1_barringHeap 67 = .ok (.aload_n 0, 1) := by decide +kernel
theorem dX1_barringHeap_68 : decode cX1_barringHeap 68 = .ok (.iload_n 1, 1) := by decide +kernel
theorem dX1_barringHeap_69 : decode cX1_barringHeap 69 = .ok (.iload 6, 2) := by decide +kernel
theorem dX1_barringHeap_71 : decode cX1_barringHeap 71 = .ok (.invokevirtual 59, 3) := by decide +kernel
theorem dX1_barringHeap_74 : decode cX1_barringHeap 74 = .ok (.iload_n 2, 1) := by decide +kernel
theorem dX1_barringHeap_75 : decode cX1_barringHeap 75 = .ok (.invokestatic 52, 3) := by decide +kernel
theorem dX1_barringHeap_78 : decode cX1_barringHeap 78 = .ok (.ifCond .ne 11, 3) := by decide +kernel
theorem dX1_barringHeap_81 : decode cX1_barringHeap 81 = .ok (.iload 6, 2) := by decide +kernel
theorem dX1_barringHeap_83 : decode cX1_barringHeap 83 = .ok (.istore 4, 2) := by decide +kernel
theorem dX1_barringHeap_85 : decode cX1_barringHeap 85 = .ok (.iload 7, 2) := by decide +kernel
theorem dX1_barringHeap_87 : decode cX1_barringHeap 87 = .ok (.istore 5, 2) := by decide +kernel
theorem dX1_barringHeap_89 : decode cX1_barringHeap 89 = .ok (.iinc 6 1, 3) := by decide +kernel
theorem dX1_barringHeap_92 : decode cX1_barringHeap 92 = .ok (.goto (-58), 3) := by decide +kernel
theorem dX1_barringHeap_95 : decode cX1_barringHeap 95 = .ok (.iload 4, 2) := by decide +kernel
theorem dX1_barringHeap_97 : decode cX1_barringHeap 97 = .ok (.ireturn, 1) := by decide +kernel
theorem dX1_joinPosts_0 : decode cX1_joinPosts 0 = .ok (.iconst 0, 1) := by decide +kernel
theorem dX1_joinPosts_1 : decode cX1_joinPosts 1 = .ok (.istore_n 2, 1) := by decide +kernel
theorem dX1_joinPosts_2 : decode cX1_joinPosts 2 = .ok (.iload_n 2, 1) := by decide +kernel
theorem dX1_joinPosts_3 : decode cX1_joinPosts 3 = .ok (.aload_n 0, 1) := by decide +kernel
theorem dX1_joinPosts_4 : decode cX1_joinPosts 4 = .ok (.getfield 28, 3) := by decide +kernel
theorem dX1_joinPosts_7 : decode cX1_joinPosts 7 = .ok (.if_icmp .ge 16, 3) := by decide +kernel
theorem dX1_joinPosts_10 : decode cX1_joinPosts 10 = .ok (.aload_n 0, 1) := by decide +kernel
theorem dX1_joinPosts_11 : decode cX1_joinPosts 11 = .ok (.getfield 38, 3) := by decide +kernel
theorem dX1_joinPosts_14 : decode cX1_joinPosts 14 = .ok (.iload_n 2, 1) := by decide +kernel
theorem dX1_joinPosts_15 : decode cX1_joinPosts 15 = .ok (.iconst 0, 1) := by decide +kernel
theorem dX1_joinPosts_16 : decode cX1_joinPosts 16 = .ok (.iastore, 1) := by decide +kernel
theorem dX1_joinPosts_17 : decode cX1_joinPosts 17 = .ok (.iinc 2 1, 3) := by decide +kernel
theorem dX1_joinPosts_20 : decode cX1_joinPosts 20 = .ok (.goto (-18), 3) := by decide +kernel
theorem dX1_joinPosts_23 : decode cX1_joinPosts 23 = .ok (.iconst 0, 1) := by decide +kernel
theorem dX1_joinPosts_24 : decode cX1_joinPosts 24 = .ok (.istore_n 2, 1) := by decide +kernel
theorem dX1_joinPosts_25 : decode cX1_joinPosts 25 = .ok (.iload_n 2, 1) := by decide +kernel
theorem dX1_joinPosts_26 : decode cX1_joinPosts 26 = .ok (.aload_n 0, 1) := by decide +kernel
theorem dX1_joinPosts_27 : decode cX1_joinPosts 27 = .ok (.getfield 32, 3) := by decide +kernel
theorem dX1_joinPosts_30 : decode cX1_joinPosts 30 = .ok (.if_icmp .ge 67, 3) := by decide +kernel
theorem dX1_joinPosts_33 : decode cX1_joinPosts 33 = .ok (.aload_n 0, 1) := by decide +kernel
theorem dX1_joinPosts_34 : decode cX1_joinPosts 34 = .ok (.getfield 25, 3) := by decide +kernel
theorem dX1_joinPosts_37 : decode cX1_joinPosts 37 = .ok (.iload_n 2, 1) := by decide +kernel
theorem dX1_joinPosts_38 : decode cX1_joinPosts 38 = .ok (.baload, 1) := by decide +kernel
theorem dX1_joinPosts_39 : decode cX1_joinPosts 39 = .ok (.ifCond .ne 52, 3) := by decide +kernel
theorem dX1_joinPosts_42 : decode cX1_joinPosts 42 = .ok (.iload_n 2, 1) := by decide +kernel
theorem dX1_joinPosts_43 : decode cX1_joinPosts 43 = .ok (.iload_n 1, 1) := by decide +kernel
theorem dX1_joinPosts_44 : decode cX1_joinPosts 44 = .ok (.if_icmp .eq 47, 3) := by decide +kernel
theorem dX1_joinPosts_47 : decode cX1_joinPosts 47 = .ok (.aload_n 0, 1) := by decide +kernel
theorem dX1_joinPosts_48 : decode cX1_joinPosts 48 = .ok (.getfield 38, 3) := by decide +kernel
theorem dX1_joinPosts_51 : decode cX1_joinPosts 51 = .ok (.aload_n 0, 1) := by decide +kernel
theorem dX1_joinPosts_52 : decode cX1_joinPosts 52 = .ok (.getfield 9, 3) := by decide +kernel
theorem dX1_joinPosts_55 : decode cX1_joinPosts 55 = .ok (.iload_n 2, 1) := by decide +kernel
theorem dX1_joinPosts_56 : decode cX1_joinPosts 56 = .ok (.iaload, 1) := by decide +kernel
theorem dX1_joinPosts_57 : decode cX1_joinPosts 57 = .ok (.dup2, 1) := by decide +kernel
theorem dX1_joinPosts_58 : decode cX1_joinPosts 58 = .ok (.iaload, 1) := by decide +kernel
theorem dX1_joinPosts_59 : decode cX1_joinPosts 59 = .ok (.iconst 1, 1) := by decide +kernel
theorem dX1_joinPosts_60 : decode cX1_joinPosts 60 = .ok (.aload_n 0, 1) := by decide +kernel
theorem dX1_joinPosts_61 : decode cX1_joinPosts 61 = .ok (.getfield 15, 3) := by decide +kernel
theorem dX1_joinPosts_64 : decode cX1_joinPosts 64 = .ok (.iload_n 2, 1) := by decide +kernel
theorem dX1_joinPosts_65 : decode cX1_joinPosts 65 = .ok (.iaload, 1) := by decide +kernel
theorem dX1_joinPosts_66 : decode cX1_joinPosts 66 = .ok (.ishl, 1) := by decide +kernel
theorem dX1_joinPosts_67 : decode cX1_joinPosts 67 = .ok (.ior, 1) := by decide +kernel
theorem dX1_joinPosts_68 : decode cX1_joinPosts 68 = .ok (.iastore, 1) := by decide +kernel
theorem dX1_joinPosts_69 : decode cX1_joinPosts 69 = .ok (.aload_n 0, 1) := by decide +kernel
theorem dX1_joinPosts_70 : decode cX1_joinPosts 70 = .ok (.getfield 38, 3) := by decide +kernel
theorem dX1_joinPosts_73 : decode cX1_joinPosts 73 = .ok (.aload_n 0, 1) := by decide +kernel
theorem dX1_joinPosts_74 : decode cX1_joinPosts 74 = .ok (.getfield 15, 3) := by decide +kernel
theorem dX1_joinPosts_77 : decode cX1_joinPosts 77 = .ok (.iload_n 2, 1) := by decide +kernel
theorem dX1_joinPosts_78 : decode cX1_joinPosts 78 = .ok (.iaload, 1) := by decide +kernel
theorem dX1_joinPosts_79 : decode cX1_joinPosts 79 = .ok (.dup2, 1) := by decide +kernel
theorem dX1_joinPosts_80 : decode cX1_joinPosts 80 = .ok (.iaload, 1) := by decide +kernel
theorem dX1_joinPosts_81 : decode cX1_joinPosts 81 = .ok (.iconst 1, 1) := by decide +kernel
theorem dX1_joinPosts_82 : decode cX1_joinPosts 82 = .ok (.aload_n 0, 1) := by decide +kernel
theorem dX1_joinPosts_83 : decode cX1_joinPosts 83 = .ok (.getfield 9, 3) := by decide +kernel
theorem dX1_joinPosts_86 : decode cX1_joinPosts 86 = .ok (.iload_n 2, 1) := by decide +kernel
theorem dX1_joinPosts_87 : decode cX1_joinPosts 87 = .ok (.iaload, 1) := by decide +kernel
theorem dX1_joinPosts_88 : decode cX1_joinPosts 88 = .ok (.ishl, 1) := by decide +kernel
theorem dX1_joinPosts_89 : decode cX1_joinPosts 89 = .ok (.ior, 1) := by decide +kernel
theorem dX1_joinPosts_90 : decode cX1_joinPosts 90 = .ok (.iastore, 1) := by decide +kernel
theorem dX1_joinPosts_91 : decode cX1_joinPosts 91 = .ok (.iinc 2 1, 3) := by decide +kernel
theorem dX1_joinPosts_94 : decode cX1_joinPosts 94 = .ok (.goto (-69), 3) := by decide +kernel
theorem dX1_joinPosts_97 : decode cX1_joinPosts 97 = .ok (.return_, 1) := by decide +kernel
theorem dX1_reach_0 : decode cX1_reach 0 = .ok (.iconst 1, 1) := by decide +kernel
theorem dX1_reach_1 : decode cX1_reach 1 = .ok (.iload_n 1, 1) := by decide +kernel
theorem dX1_reach_2 : decode cX1_reach 2 = .ok (.ishl, 1) := by decide +kernel
theorem dX1_reach_3 : decode cX1_reach 3 = .ok (.istore_n 3, 1) := by decide +kernel
theorem dX1_reach_4 : decode cX1_reach 4 = .ok (.iconst 1, 1) := by decide +kernel
theorem dX1_reach_5 : decode cX1_reach 5 = .ok (.istore 4, 2) := by decide +kernel
theorem dX1_reach_7 : decode cX1_reach 7 = .ok (.iload 4, 2) := by decide +kernel
theorem dX1_reach_9 : decode cX1_reach 9 = .ok (.aload_n 0, 1) := by decide +kernel
theorem dX1_reach_10 : decode cX1_reach 10 = .ok (.getfield 28, 3) := by decide +kernel
theorem dX1_reach_13 : decode cX1_reach 13 = .ok (.if_icmp .ge 66, 3) := by decide +kernel
theorem dX1_reach_16 : decode cX1_reach 16 = .ok (.iload_n 3, 1) := by decide +kernel
theorem dX1_reach_17 : decode cX1_reach 17 = .ok (.istore 5, 2) := by decide +kernel
theorem dX1_reach_19 : decode cX1_reach 19 = .ok (.iconst 0, 1) := by decide +kernel
theorem dX1_reach_20 : decode cX1_reach 20 = .ok (.istore 6, 2) := by decide +kernel
theorem dX1_reach_22 : decode cX1_reach 22 = .ok (.iload 6, 2) := by decide +kernel
theorem dX1_reach_24 : decode cX1_reach 24 = .ok (.aload_n 0, 1) := by decide +kernel
theorem dX1_reach_25 : decode cX1_reach 25 = .ok (.getfield 28, 3) := by decide +kernel
theorem dX1_reach_28 : decode cX1_reach 28 = .ok (.if_icmp .ge 34, 3) := by decide +kernel
theorem dX1_reach_31 : decode cX1_reach 31 = .ok (.iload_n 3, 1) := by decide +kernel
theorem dX1_reach_32 : decode cX1_reach 32 = .ok (.iload 6, 2) := by decide +kernel
theorem dX1_reach_34 : decode cX1_reach 34 = .ok (.invokestatic 52, 3) := by decide +kernel
theorem dX1_reach_37 : decode cX1_reach 37 = .ok (.ifCond .eq 19, 3) := by decide +kernel
theorem dX1_reach_40 : decode cX1_reach 40 = .ok (.iload 5, 2) := by decide +kernel
theorem dX1_reach_42 : decode cX1_reach 42 = .ok (.aload_n 0, 1) := by decide +kernel
theorem dX1_reach_43 : decode cX1_reach 43 = .ok (.getfield 38, 3) := by decide +kernel
theorem dX1_reach_46 : decode cX1_reach 46 = .ok (.iload 6, 2) := by decide +kernel
theorem dX1_reach_48 : decode cX1_reach 48 = .ok (.iaload, 1) := by decide +kernel
theorem dX1_reach_49 : decode cX1_reach 49 = .ok (.iload_n 2, 1) := by decide +kernel
theorem dX1_reach_50 : decode cX1_reach 50 = .ok (.iconst (-1), 1) := by decide +kernel
theorem dX1_reach_51 : decode cX1_reach 51 = .ok (.ixor, 1) := by decide +kernel
theorem dX1_reach_52 : decode cX1_reach 52 = .ok (.iand, 1) := by decide +kernel
theorem dX1_reach_53 : decode cX1_reach 53 = .ok (.ior, 1) := by decide +kernel
theorem dX1_reach_54 : decode cX1_reach 54 = .ok (.istore 5, 2) := by decide +kernel
theorem dX1_reach_56 : decode cX1_reach 56 = .ok (.iinc 6 1, 3) := by decide +kernel
theorem dX1_reach_59 : decode cX1_reach 59 = .ok (.goto (-37), 3) := by decide +kernel
theorem dX1_reach_62 : decode cX1_reach 62 = .ok (.iload 5, 2) := by decide +kernel
theorem dX1_reach_64 : decode cX1_reach 64 = .ok (.iload_n 3, 1) := by decide +kernel
theorem dX1_reach_65 : decode cX1_reach 65 = .ok (.if_icmp .ne 5, 3) := by decide +kernel
theorem dX1_reach_68 : decode cX1_reach 68 = .ok (.iload_n 3, 1) := by decide +kernel
theorem dX1_reach_69 : decode cX1_reach 69 = .ok (.ireturn, 1) := by decide +kernel
theorem dX1_reach_70 : decode cX1_reach 70 = .ok (.iload 5, 2) := by decide +kernel
theorem dX1_reach_72 : decode cX1_reach 72 = .ok (.istore_n 3, 1) := by decide +kernel
theorem dX1_reach_73 : decode cX1_reach 73 = .ok (.iinc 4 1, 3) := by decide +kernel
theorem dX1_reach_76 : decode cX1_reach 76 = .ok (.goto (-69), 3) := by decide +kernel
theorem dX1_reach_79 : decode cX1_reach 79 = .ok (.iload_n 3, 1) := by decide +kernel
theorem dX1_reach_80 : decode cX1_reach 80 = .ok (.ireturn, 1) := by decide +kernel
theorem dX2_init_0 : decode cX2_init 0 = .ok (.aload_n 0, 1) := by decide +kernel
theorem dX2_init_1 : decode cX2_init 1 = .ok (.invokespecial 3, 3) := by decide +kernel
theorem dX2_init_4 : decode cX2_init 4 = .ok (.aload_n 0, 1) := by decide +kernel
theorem dX2_init_5 : decode cX2_init 5 = .ok (.bipush 9, 2) := by decide +kernel
theorem dX2_init_7 : decode cX2_init 7 = .ok (.bipush 9, 2) := by decide +kernel
theorem dX2_init_9 : decode cX2_init 9 = .ok (.multianewarray 9 2, 4) := by decide +kernel
theorem dX2_init_13 : decode cX2_init 13 = .ok (.putfield 11, 3) := by decide +kernel
theorem dX2_init_16 : decode cX2_init 16 = .ok (.aload_n 0, 1) := by decide +kernel
theorem dX2_init_17 : decode cX2_init 17 = .ok (.bipush 9, 2) := by decide +kernel
theorem dX2_init_19 : decode cX2_init 19 = .ok (.bipush 9, 2) := by decide +kernel
theorem dX2_init_21 : decode cX2_init 21 = .ok (.multianewarray 9 2, 4) := by decide +kernel
theorem dX2_init_25 : decode cX2_init 25 = .ok (.putfield 16, 3) := by decide +kernel
theorem dX2_init_28 : decode cX2_init 28 = .ok (.aload_n 0, 1) := by decide +kernel
theorem dX2_init_29 : decode cX2_init 29 = .ok (.bipush 9, 2) := by decide +kernel
theorem dX2_init_31 : decode cX2_init 31 = .ok (.bipush 9, 2) := by decide +kernel
theorem dX2_init_33 : decode cX2_init 33 = .ok (.multianewarray 9 2, 4) := by decide +kernel
theorem dX2_init_37 : decode cX2_init 37 = .ok (.putfield 19, 3) := by decide +kernel
theorem dX2_init_40 : decode cX2_init 40 = .ok (.aload_n 0, 1) := by decide +kernel
theorem dX2_init_41 : decode cX2_init 41 = .ok (.bipush 9, 2) := by decide +kernel
theorem dX2_init_43 : decode cX2_init 43 = .ok (.newarray .int, 2) := by decide +kernel
theorem dX2_init_45 : decode cX2_init 45 = .ok (.putfield 22, 3) := by decide +kernel
theorem dX2_init_48 : decode cX2_init 48 = .ok (.aload_n 0, 1) := by decide +kernel
theorem dX2_init_49 : decode cX2_init 49 = .ok (.bipush 9, 2) := by decide +kernel
theorem dX2_init_51 : decode cX2_init 51 = .ok (.newarray .int, 2) := by decide +kernel
theorem dX2_init_53 : decode cX2_init 53 = .ok (.putfield 26, 3) := by decide +kernel
theorem dX2_init_56 : decode cX2_init 56 = .ok (.aload_n 0, 1) := by decide +kernel
theorem dX2_init_57 : decode cX2_init 57 = .ok (.bipush 9, 2) := by decide +kernel
theorem dX2_init_59 : decode cX2_init 59 = .ok (.newarray .int, 2) := by decide +kernel
theorem dX2_init_61 : decode cX2_init 61 = .ok (.putfield 29, 3) := by decide +kernel
theorem dX2_init_64 : decode cX2_init 64 = .ok (.aload_n 0, 1) := by decide +kernel
theorem dX2_init_65 : decode cX2_init 65 = .ok (.bipush 9, 2) := by decide +kernel
theorem dX2_init_67 : decode cX2_init 67 = .ok (.newarray .int, 2) := by decide +kernel
theorem dX2_init_69 : decode cX2_init 69 = .ok (.putfield 32, 3) := by decide +kernel
theorem dX2_init_72 : decode cX2_init 72 = .ok (.aload_n 0, 1) := by decide +kernel
theorem dX2_init_73 : decode cX2_init 73 = .ok (.bipush 9, 2) := by decide +kernel
theorem dX2_init_75 : decode cX2_init 75 = .ok (.newarray .int, 2) := by decide +kernel
theorem dX2_init_77 : decode cX2_init 77 = .ok (.putfield 35, 3) := by decide +kernel
theorem dX2_init_80 : decode cX2_init 80 = .ok (.aload_n 0, 1) := by decide +kernel
theorem dX2_init_81 : decode cX2_init 81 = .ok (.iconst 0, 1) := by decide +kernel
theorem dX2_init_82 : decode cX2_init 82 = .ok (.putfield 38, 3) := by decide +kernel
theorem dX2_init_85 : decode cX2_init 85 = .ok (.aload_n 0, 1) := by decide +kernel
theorem dX2_init_86 : decode cX2_init 86 = .ok (.iconst 0, 1) := by decide +kernel
theorem dX2_init_87 : decode cX2_init 87 = .ok (.putfield 42, 3) := by decide +kernel
theorem dX2_init_90 : decode cX2_init 90 = .ok (.aload_n 0, 1) := by decide +kernel
theorem dX2_init_91 : decode cX2_init 91 = .ok (.iconst 0, 1) := by decide +kernel
theorem dX2_init_92 : decode cX2_init 92 = .ok (.putfield 45, 3) := by decide +kernel
theorem dX2_init_95 : decode cX2_init 95 = .ok (.aload_n 0, 1) := by decide +kernel
theorem dX2_init_96 : decode cX2_init 96 = .ok (.ldc 48, 2) := by decide +kernel
theorem dX2_init_98 : decode cX2_init 98 = .ok (.putfield 49, 3) := by decide +kernel
theorem dX2_init_101 : decode cX2_init 101 = .ok (.return_, 1) := by decide +kernel
theorem dX2_begin_0 : decode cX2_begin 0 = .ok (.aload_n 0, 1) := by decide +kernel
theorem dX2_begin_1 : decode cX2_begin 1 = .ok (.iload_n 1, 1) := by decide +kernel
theorem dX2_begin_2 : decode cX2_begin 2 = .ok (.bipush 9, 2) := by decide +kernel
theorem dX2_begin_4 : decode cX2_begin 4 = .ok (.invokestatic 52, 3) := by decide +kernel
theorem dX2_begin_7 : decode cX2_begin 7 = .ok (.putfield 38, 3) := by decide +kernel
theorem dX2_begin_10 : decode cX2_begin 10 = .ok (.aload_n 0, 1) := by decide +kernel
theorem dX2_begin_11 : decode cX2_begin 11 = .ok (.iconst 0, 1) := by decide +kernel
theorem dX2_begin_12 : decode cX2_begin 12 = .ok (.putfield 42, 3) := by decide +kernel
theorem dX2_begin_15 : decode cX2_begin 15 = .ok (.aload_n 0, 1) := by decide +kernel
theorem dX2_begin_16 : decode cX2_begin 16 = .ok (.aload_n 0, 1) := by decide +kernel
theorem dX2_begin_17 : decode cX2_begin 17 = .ok (.getfield 38, 3) := by decide +kernel
theorem dX2_begin_20 : decode cX2_begin 20 = .ok (.putfield 45, 3) := by decide +kernel
theorem dX2_begin_23 : decode cX2_begin 23 = .ok (.iconst 0, 1) := by decide +kernel
theorem dX2_begin_24 : decode cX2_begin 24 = .ok (.istore_n 2, 1) := by decide +kernel
theorem dX2_begin_25 : decode cX2_begin 25 = .ok (.iload_n 2, 1) := by decide +kernel
theorem dX2_begin_26 : decode cX2_begin 26 = .ok (.aload_n 0, 1) := by decide +kernel
theorem dX2_begin_27 : decode cX2_begin 27 = .ok (.getfield 38, 3) := by decide +kernel
theorem dX2_begin_30 : decode cX2_begin 30 = .ok (.if_icmp .ge 54, 3) := by decide +kernel
theorem dX2_begin_33 : decode cX2_begin 33 = .ok (.aload_n 0, 1) := by decide +kernel
theorem dX2_begin_34 : decode cX2_begin 34 = .ok (.getfield 22, 3) := by decide +kernel
theorem dX2_begin_37 : decode cX2_begin 37 = .ok (.iload_n 2, 1) := by decide +kernel
theorem dX2_begin_38 : decode cX2_begin 38 = .ok (.iconst 0, 1) := by decide +kernel
theorem dX2_begin_39 : decode cX2_begin 39 = .ok (.iastore, 1) := by decide +kernel
theorem dX2_begin_40 : decode cX2_begin 40 = .ok (.aload_n 0, 1) := by decide +kernel
theorem dX2_begin_41 : decode cX2_begin 41 = .ok (.getfield 26, 3) := by decide +kernel
theorem dX2_begin_44 : decode cX2_begin 44 = .ok (.iload_n 2, 1) := by decide +kernel
theorem dX2_begin_45 : decode cX2_begin 45 = .ok (.iconst 0, 1) := by decide +kernel
theorem dX2_begin_46 : decode cX2_begin 46 = .ok (.iastore, 1) := by decide +kernel
theorem dX2_begin_47 : decode cX2_begin 47 = .ok (.iconst 0, 1) := by decide +kernel
theorem dX2_begin_48 : decode cX2_begin 48 = .ok (.istore_n 3, 1) := by decide +kernel
theorem dX2_begin_49 : decode cX2_begin 49 = .ok (.iload_n 3, 1) := by decide +kernel
theorem dX2_begin_50 : decode cX2_begin 50 = .ok (.iload_n 2, 1) := by decide +kernel
theorem dX2_begin_51 : decode cX2_begin 51 = .ok (.if_icmp .ge 27, 3) := by decide +kernel
theorem dX2_begin_54 : decode cX2_begin 54 = .ok (.aload_n 0, 1) := by decide +kernel
theorem dX2_begin_55 : decode cX2_begin 55 = .ok (.getfield 11, 3) := by decide +kernel
theorem dX2_begin_58 : decode cX2_begin 58 = .ok (.iload_n 2, 1) := by decide +kernel
theorem dX2_begin_59 : decode cX2_begin 59 = .ok (.aaload, 1) := by decide +kernel
theorem dX2_begin_60 : decode cX2_begin 60 = .ok (.iload_n 3, 1) := by decide +kernel
theorem dX2_begin_61 : decode cX2_begin 61 = .ok (.iconst 0, 1) := by decide +kernel
theorem dX2_begin_62 : decode cX2_begin 62 = .ok (.iastore, 1) := by decide +kernel
theorem dX2_begin_63 : decode cX2_begin 63 = .ok (.aload_n 0, 1) := by decide +kernel
theorem dX2_begin_64 : decode cX2_begin 64 = .ok (.getfield 16, 3) := by decide +kernel
theorem dX2_begin_67 : decode cX2_begin 67 = .ok (.iload_n 2, 1) := by decide +kernel
theorem dX2_begin_68 : decode cX2_begin 68 = .ok (.aaload, 1) := by decide +kernel
theorem dX2_begin_69 : decode cX2_begin 69 = .ok (.iload_n 3, 1) := by decide +kernel
theorem dX2_begin_70 : decode cX2_begin 70 = .ok (.iconst 0, 1) := by decide +kernel
theorem dX2_begin_71 : decode cX2_begin 71 = .ok (.iastore, 1) := by decide +kernel
theorem dX2_begin_72 : decode cX2_begin 72 = .ok (.iinc 3 1, 3) := by decide +kernel
theorem dX2_begin_75 : decode cX2_begin 75 = .ok (.goto (-26), 3) := by decide +kernel
theorem dX2_begin_78 : decode cX2_begin 78 = .ok (.iinc 2 1, 3) := by decide +kernel
theorem dX2_begin_81 : decode cX2_begin 81 = .ok (.goto (-56), 3) := by decide +kernel
theorem dX2_begin_84 : decode cX2_begin 84 = .ok (.return_, 1) := by decide +kernel
theorem dX2_addCost_0 : decode cX2_addCost 0 = .ok (.iload_n 1, 1) := by decide +kernel
theorem dX2_addCost_1 : decode cX2_addCost 1 = .ok (.iload_n 2, 1) := by decide +kernel
theorem dX2_addCost_2 : decode cX2_addCost 2 = .ok (.invokestatic 58, 3) := by decide +kernel
theorem dX2_addCost_5 : decode cX2_addCost 5 = .ok (.istore 5, 2) := by decide +kernel
theorem dX2_addCost_7 : decode cX2_addCost 7 = .ok (.iload_n 1, 1) := by decide +kernel
theorem dX2_addCost_8 : decode cX2_addCost 8 = .ok (.iload_n 2, 1) := by decide +kernel
theorem dX2_addCost_9 : decode cX2_addCost 9 = .ok (.invokestatic 52, 3) := by decide +kernel
theorem dX2_addCost_12 : decode cX2_addCost 12 = .ok (.istore 6, 2) := by decide +kernel
theorem dX2_addCost_14 : decode cX2_addCost 14 = .ok (.aload_n 0, 1) := by decide +kernel
theorem dX2_addCost_15 : decode cX2_addCost 15 = .ok (.getfield 11, 3) := by decide +kernel
theorem dX2_addCost_18 : decode cX2_addCost 18 = .ok (.iload 5, 2) := by decide +kernel
theorem dX2_addCost_20 : decode cX2_addCost 20 = .ok (.aaload, 1) := by decide +kernel
theorem dX2_addCost_21 : decode cX2_addCost 21 = .ok (.iload 6, 2) := by decide +kernel
theorem dX2_addCost_23 : decode cX2_addCost 23 = .ok (.dup2, 1) := by decide +kernel
theorem dX2_addCost_24 : decode cX2_addCost 24 = .ok (.iaload, 1) := by decide +kernel
theorem dX2_addCost_25 : decode cX2_addCost 25 = .ok (.iload_n 3, 1) := by decide +kernel
theorem dX2_addCost_26 : decode cX2_addCost 26 = .ok (.iadd, 1) := by decide +kernel
theorem dX2_addCost_27 : decode cX2_addCost 27 = .ok (.iastore, 1) := by decide +kernel
theorem dX2_addCost_28 : decode cX2_addCost 28 = .ok (.aload_n 0, 1) := by decide +kernel
theorem dX2_addCost_29 : decode cX2_addCost 29 = .ok (.getfield 16, 3) := by decide +kernel
theorem dX2_addCost_32 : decode cX2_addCost 32 = .ok (.iload 5, 2) := by decide +kernel
theorem dX2_addCost_34 : decode cX2_addCost 34 = .ok (.aaload, 1) := by decide +kernel
theorem dX2_addCost_35 : decode cX2_addCost 35 = .ok (.iload 6, 2) := by decide +kernel
theorem dX2_addCost_37 : decode cX2_addCost 37 = .ok (.dup2, 1) := by decide +kernel
theorem dX2_addCost_38 : decode cX2_addCost 38 = .ok (.iaload, 1) := by decide +kernel
theorem dX2_addCost_39 : decode cX2_addCost 39 = .ok (.iload 4, 2) := by decide +kernel
theorem dX2_addCost_41 : decode cX2_addCost 41 = .ok (.iadd, 1) := by decide +kernel
theorem dX2_addCost_42 : decode cX2_addCost 42 = .ok (.iastore, 1) := by decide +kernel
theorem dX2_addCost_43 : decode cX2_addCost 43 = .ok (.return_, 1) := by decide +kernel
theorem dX2_keepApart_0 : decode cX2_keepApart 0 = .ok (.aload_n 0, 1) := by decide +kernel
theorem dX2_keepApart_1 : decode cX2_keepApart 1 = .ok (.iload_n 1, 1) := by decide +kernel
theorem dX2_keepApart_2 : decode cX2_keepApart 2 = .ok (.iconst 1, 1) := by decide +kernel
theorem dX2_keepApart_3 : decode cX2_keepApart 3 = .ok (.iload_n 2, 1) := by decide +kernel
theorem dX2_keepApart_4 : decode cX2_keepApart 4 = .ok (.ishl, 1) := by decide +kernel
theorem dX2_keepApart_5 : decode cX2_keepApart 5 = .ok (.invokevirtual 61, 3) := by decide +kernel
theorem dX2_keepApart_8 : decode cX2_keepApart 8 = .ok (.aload_n 0, 1) := by decide +kernel
theorem dX2_keepApart_9 : decode cX2_keepApart 9 = .ok (.iload_n 2, 1) := by decide +kernel
theorem dX2_keepApart_10 : decode cX2_keepApart 10 = .ok (.iconst 1, 1) := by decide +kernel
theorem dX2_keepApart_11 : decode cX2_keepApart 11 = .ok (.iload_n 1, 1) := by decide +kernel
theorem dX2_keepApart_12 : decode cX2_keepApart 12 = .ok (.ishl, 1) := by decide +kernel
theorem dX2_keepApart_13 : decode cX2_keepApart 13 = .ok (.invokevirtual 61, 3) := by decide +kernel
theorem dX2_keepApart_16 : decode cX2_keepApart 16 = .ok (.return_, 1) := by decide +kernel
theorem dX2_keepApartFrom_0 : decode cX2_keepApartFrom 0 = .ok (.aload_n 0, 1) := by decide +kernel
theorem dX2_keepApartFrom_1 : decode cX2_keepApartFrom 1 = .ok (.getfield 22, 3) := by decide +kernel
theorem dX2_keepApartFrom_4 : decode cX2_keepApartFrom 4 = .ok (.iload_n 1, 1) := by decide +kernel
theorem dX2_keepApartFrom_5 : decode cX2_keepApartFrom 5 = .ok (.dup2, 1) := by decide +kernel
theorem dX2_keepApartFrom_6 : decode cX2_keepApartFrom 6 = .ok (.iaload, 1) := by decide +kernel
theorem dX2_keepApartFrom_7 : decode cX2_keepApartFrom 7 = .ok (.iload_n 2, 1) := by decide +kernel
theorem dX2_keepApartFrom_8 : decode cX2_keepApartFrom 8 = .ok (.ior, 1) := by decide +kernel
theorem dX2_keepApartFrom_9 : decode cX2_keepApartFrom 9 = .ok (.iastore, 1) := by decide +kernel
theorem dX2_keepApartFrom_10 : decode cX2_keepApartFrom 10 = .ok (.return_, 1) := by decide +kernel
theorem dX2_keepTogether_0 : decode cX2_keepTogether 0 = .ok (.aload_n 0, 1) := by decide +kernel
theorem dX2_keepTogether_1 : decode cX2_keepTogether 1 = .ok (.getfield 26, 3) := by decide +kernel
theorem dX2_keepTogether_4 : decode cX2_keepTogether 4 = .ok (.iload_n 1, 1) := by decide +kernel
theorem dX2_keepTogether_5 : decode cX2_keepTogether 5 = .ok (.dup2, 1) := by decide +kernel
theorem dX2_keepTogether_6 : decode cX2_keepTogether 6 = .ok (.iaload, 1) := by decide +kernel
theorem dX2_keepTogether_7 : decode cX2_keepTogether 7 = .ok (.iconst 1, 1) := by decide +kernel
theorem dX2_keepTogether_8 : decode cX2_keepTogether 8 = .ok (.iload_n 2, 1) := by decide +kernel
theorem dX2_keepTogether_9 : decode cX2_keepTogether 9 = .ok (.ishl, 1) := by decide +kernel
theorem dX2_keepTogether_10 : decode cX2_keepTogether 10 = .ok (.ior, 1) := by decide +kernel
theorem dX2_keepTogether_11 : decode cX2_keepTogether 11 = .ok (.iastore, 1) := by decide +kernel
theorem dX2_keepTogether_12 : decode cX2_keepTogether 12 = .ok (.aload_n 0, 1) := by decide +kernel
theorem dX2_keepTogether_13 : decode cX2_keepTogether 13 = .ok (.getfield 26, 3) := by decide +kernel
theorem dX2_keepTogether_16 : decode cX2_keepTogether 16 = .ok (.iload_n 2, 1) := by decide +kernel
theorem dX2_keepTogether_17 : decode cX2_keepTogether 17 = .ok (.dup2, 1) := by decide +kernel
theorem dX2_keepTogether_18 : decode cX2_keepTogether 18 = .ok (.iaload, 1) := by decide +kernel
theorem dX2_keepTogether_19 : decode cX2_keepTogether 19 = .ok (.iconst 1, 1) := by decide +kernel
theorem dX2_keepTogether_20 : decode cX2_keepTogether 20 = .ok (.iload_n 1, 1) := by decide +kernel
theorem dX2_keepTogether_21 : decode cX2_keepTogether 21 = .ok (.ishl, 1) := by decide +kernel
theorem dX2_keepTogether_22 : decode cX2_keepTogether 22 = .ok (.ior, 1) := by decide +kernel
theorem dX2_keepTogether_23 : decode cX2_keepTogether 23 = .ok (.iastore, 1) := by decide +kernel
theorem dX2_keepTogether_24 : decode cX2_keepTogether 24 = .ok (.return_, 1) := by decide +kernel
theorem dX2_wantParts_0 : decode cX2_wantParts 0 = .ok (.aload_n 0, 1) := by decide +kernel
theorem dX2_wantParts_1 : decode cX2_wantParts 1 = .ok (.iload_n 1, 1) := by decide +kernel
theorem dX2_wantParts_2 : decode cX2_wantParts 2 = .ok (.putfield 42, 3) := by decide +kernel
theorem dX2_wantParts_5 : decode cX2_wantParts 5 = .ok (.aload_n 0, 1) := by decide +kernel
theorem dX2_wantParts_6 : decode cX2_wantParts 6 = .ok (.iload_n 1, 1) := by decide +kernel
theorem dX2_wantParts_7 : decode cX2_wantParts 7 = .ok (.putfield 45, 3) := by decide +kernel
theorem dX2_wantParts_10 : decode cX2_wantParts 10 = .ok (.return_, 1) := by decide +kernel
theorem dX2_run_0 : decode cX2_run 0 = .ok (.aload_n 0, 1) := by decide +kernel
theorem dX2_run_1 : decode cX2_run 1 = .ok (.ldc 48, 2) := by decide +kernel
theorem dX2_run_3 : decode cX2_run 3 = .ok (.putfield 49, 3) := by decide +kernel
theorem dX2_run_6 : decode cX2_run 6 = .ok (.iconst 0, 1) := by decide +kernel
theorem dX2_run_7 : decode cX2_run 7 = .ok (.istore_n 1, 1) := by decide +kernel
theorem dX2_run_8 : decode cX2_run 8 = .ok (.iload_n 1, 1) := by decide +kernel
theorem dX2_run_9 : decode cX2_run 9 = .ok (.aload_n 0, 1) := by decide +kernel
theorem dX2_run_10 : decode cX2_run 10 = .ok (.getfield 38, 3) := by decide +kernel
theorem dX2_run_13 : decode cX2_run 13 = .ok (.if_icmp .ge 16, 3) := by decide +kernel
theorem dX2_run_16 : decode cX2_run 16 = .ok (.aload_n 0, 1) := by decide +kernel
theorem dX2_run_17 : decode cX2_run 17 = .ok (.getfield 29, 3) := by decide +kernel
theorem dX2_run_20 : decode cX2_run 20 = .ok (.iload_n 1, 1) := by decide +kernel
theorem dX2_run_21 : decode cX2_run 21 = .ok (.iconst 0, 1) := by decide +kernel
theorem dX2_run_22 : decode cX2_run 22 = .ok (.iastore, 1) := by decide +kernel
theorem dX2_run_23 : decode cX2_run 23 = .ok (.iinc 1 1, 3) := by decide +kernel
theorem dX2_run_26 : decode cX2_run 26 = .ok (.goto (-18), 3) := by decide +kernel
theorem dX2_run_29 : decode cX2_run 29 = .ok (.aload_n 0, 1) := by decide +kernel
theorem dX2_run_30 : decode cX2_run 30 = .ok (.iconst 0, 1) := by decide +kernel
theorem dX2_run_31 : decode cX2_run 31 = .ok (.iconst 0, 1) := by decide +kernel
theorem dX2_run_32 : decode cX2_run 32 = .ok (.iconst 0, 1) := by decide +kernel
theorem dX2_run_33 : decode cX2_run 33 = .ok (.invokestatic 65, 3) := by decide +kernel
theorem dX2_run_36 : decode cX2_run 36 = .ok (.return_, 1) := by decide +kernel
theorem dX2_leastCost_0 : decode cX2_leastCost 0 = .ok (.aload_n 0, 1) := by decide +kernel
theorem dX2_leastCost_1 : decode cX2_leastCost 1 = .ok (.getfield 49, 3) := by decide +kernel
theorem dX2_leastCost_4 : decode cX2_leastCost 4 = .ok (.ireturn, 1) := by decide +kernel
theorem dX2_partOf_0 : decode cX2_partOf 0 = .ok (.aload_n 0, 1) := by decide +kernel
theorem dX2_partOf_1 : decode cX2_partOf 1 = .ok (.getfield 35, 3) := by decide +kernel
theorem dX2_partOf_4 : decode cX2_partOf 4 = .ok (.iload_n 1, 1) := by decide +kernel
theorem dX2_partOf_5 : decode cX2_partOf 5 = .ok (.iaload, 1) := by decide +kernel
theorem dX2_partOf_6 : decode cX2_partOf 6 = .ok (.ireturn, 1) := by decide +kernel
theorem dX2_place_0 : decode cX2_place 0 = .ok (.iload_n 3, 1) := by decide +kernel
theorem dX2_place_1 : decode cX2_place 1 = .ok (.aload_n 0, 1) := by decide +kernel
theorem dX2_place_2 : decode cX2_place 2 = .ok (.getfield 49, 3) := by decide +kernel
theorem dX2_place_5 : decode cX2_place 5 = .ok (.if_icmp .ge 18, 3) := by decide +kernel
theorem dX2_place_8 : decode cX2_place 8 = .ok (.iload_n 2, 1) := by decide +kernel
theorem dX2_place_9 : decode cX2_place 9 = .ok (.aload_n 0, 1) := by decide +kernel
theorem dX2_place_10 : decode cX2_place 10 = .ok (.getfield 38, 3) := by decide +kernel
theorem dX2_place_13 : decode cX2_place 13 = .ok (.iadd, 1) := by decide +kernel
theorem dX2_place_14 : decode cX2_place 14 = .ok (.iload_n 1, 1) := by decide +kernel
theorem dX2_place_15 : decode cX2_place 15 = .ok (.isub, 1) := by decide +kernel
theorem dX2_place_16 : decode cX2_place 16 = .ok (.aload_n 0, 1) := by decide +kernel
theorem dX2_place_17 : decode cX2_place 17 = .ok (.getfield 42, 3) := by decide +kernel
theorem dX2_place_20 : decode cX2_place 20 = .ok (.if_icmp .ge 4, 3) := by decide +kernel
theorem dX2_place_23 : decode cX2_place 23 = .ok (.return_, 1) := by decide +kernel
theorem dX2_place_24 : decode cX2_place 24 = .ok (.iload_n 1, 1) := by decide +kernel
theorem dX2_place_25 : decode cX2_place 25 = .ok (.aload_n 0, 1) := by decide +kernel
theorem dX2_place_26 : decode cX2_place 26 = .ok (.getfield 38, 3) := by decide +kernel
theorem dX2_place_29 : decode cX2_place 29 = .ok (.if_icmp .lt 9, 3) := by decide +kernel
theorem dX2_place_32 : decode cX2_place 32 = .ok (.aload_n 0, 1) := by decide +kernel
theorem dX2_place_33 : decode cX2_place 33 = .ok (.iload_n 3, 1) := by decide +kernel
theorem dX2_place_34 : decode cX2_place 34 = .ok (.invokevirtual 69, 3) := by decide +kernel
theorem dX2_place_37 : decode cX2_place 37 = .ok (.return_, 1) := by decide +kernel
theorem dX2_place_38 : decode cX2_place 38 = .ok (.aload_n 0, 1) := by decide +kernel
theorem dX2_place_39 : decode cX2_place 39 = .ok (.iload_n 1, 1) := by decide +kernel
theorem dX2_place_40 : decode cX2_place 40 = .ok (.iload_n 2, 1) := by decide +kernel
theorem dX2_place_41 : decode cX2_place 41 = .ok (.invokevirtual 73, 3) := by decide +kernel
theorem dX2_place_44 : decode cX2_place 44 = .ok (.iconst 1, 1) := by decide +kernel
theorem dX2_place_45 : decode cX2_place 45 = .ok (.iload_n 1, 1) := by decide +kernel
theorem dX2_place_46 : decode cX2_place 46 = .ok (.ishl, 1) := by decide +kernel
theorem dX2_place_47 : decode cX2_place 47 = .ok (.istore 4, 2) := by decide +kernel
theorem dX2_place_49 : decode cX2_place 49 = .ok (.iconst 0, 1) := by decide +kernel
theorem dX2_place_50 : decode cX2_place 50 = .ok (.istore 5, 2) := by decide +kernel
theorem dX2_place_52 : decode cX2_place 52 = .ok (.iload 5, 2) := by decide +kernel
theorem dX2_place_54 : decode cX2_place 54 = .ok (.iload_n 2, 1) := by decide +kernel
theorem dX2_place_55 : decode cX2_place 55 = .ok (.if_icmp .gt 88, 3) := by decide +kernel
theorem dX2_place_58 : decode cX2_place 58 = .ok (.iload 5, 2) := by decide +kernel
theorem dX2_place_60 : decode cX2_place 60 = .ok (.aload_n 0, 1) := by decide +kernel
theorem dX2_place_61 : decode cX2_place 61 = .ok (.getfield 45, 3) := by decide +kernel
theorem dX2_place_64 : decode cX2_place 64 = .ok (.if_icmp .ge 79, 3) := by decide +kernel
theorem dX2_place_67 : decode cX2_place 67 = .ok (.aload_n 0, 1) := by decide +kernel
theorem dX2_place_68 : decode cX2_place 68 = .ok (.iload_n 1, 1) := by decide +kernel
theorem dX2_place_69 : decode cX2_place 69 = .ok (.iload 5, 2) := by decide +kernel
theorem dX2_place_71 : decode cX2_place 71 = .ok (.invokevirtual 76, 3) := by decide +kernel
theorem dX2_place_74 : decode cX2_place 74 = .ok (.ifCond .eq 63, 3) := by decide +kernel
theorem dX2_place_77 : decode cX2_place 77 = .ok (.aload_n 0, 1) := by decide +kernel
theorem dX2_place_78 : decode cX2_place 78 = .ok (.getfield 32, 3) := by decide +kernel
theorem dX2_place_81 : decode cX2_place 81 = .ok (.iload_n 1, 1) := by decide +kernel
theorem dX2_place_82 : decode cX2_place 82 = .ok (.iload 5, 2) := by decide +kernel
theorem dX2_place_84 : decode cX2_place 84 = .ok (.iastore, 1) := by decide +kernel
theorem dX2_place_85 : decode cX2_place 85 = .ok (.aload_n 0, 1) := by decide +kernel
theorem dX2_place_86 : decode cX2_place 86 = .ok (.getfield 29, 3) := by decide +kernel
theorem dX2_place_89 : decode cX2_place 89 = .ok (.iload 5, 2) := by decide +kernel
theorem dX2_place_91 : decode cX2_place 91 = .ok (.dup2, 1) := by decide +kernel
theorem dX2_place_92 : decode cX2_place 92 = .ok (.iaload, 1) := by decide +kernel
theorem dX2_place_93 : decode cX2_place 93 = .ok (.iload 4, 2) := by decide +kernel
theorem dX2_place_95 : decode cX2_place 95 = .ok (.ior, 1) := by decide +kernel
theorem dX2_place_96 : decode cX2_place 96 = .ok (.iastore, 1) := by decide +kernel
theorem dX2_place_97 : decode cX2_place 97 = .ok (.aload_n 0, 1) := by decide +kernel
theorem dX2_place_98 : decode cX2_place 98 = .ok (.iload_n 1, 1) := by decide +kernel
theorem dX2_place_99 : decode cX2_place 99 = .ok (.iconst 1, 1) := by decide +kernel
theorem dX2_place_100 : decode cX2_place 100 = .ok (.iadd, 1) := by decide +kernel
theorem dX2_place_101 : decode cX2_place 101 = .ok (.iload_n 2, 1) := by decide +kernel
theorem dX2_place_102 : decode cX2_place 102 = .ok (.iload 5, 2) := by decide +kernel
theorem dX2_place_104 : decode cX2_place 104 = .ok (.iconst 1, 1) := by decide +kernel
theorem dX2_place_105 : decode cX2_place 105 = .ok (.iadd, 1) := by decide +kernel
theorem dX2_place_106 : decode cX2_place 106 = .ok (.invokestatic 58, 3) := by decide +kernel
theorem dX2_place_109 : decode cX2_place 109 = .ok (.iload_n 3, 1) := by decide +kernel
theorem dX2_place_110 : decode cX2_place 110 = .ok (.aload_n 0, 1) := by decide +kernel
theorem dX2_place_111 : decode cX2_place 111 = .ok (.getfield 19, 3) := by decide +kernel
theorem dX2_place_114 : decode cX2_place 114 = .ok (.iload_n 1, 1) := by decide +kernel
theorem dX2_place_115 : decode cX2_place 115 = .ok (.aaload, 1) := by decide +kernel
theorem dX2_place_116 : decode cX2_place 116 = .ok (.iload 5, 2) := by decide +kernel
theorem dX2_place_118 : decode cX2_place 118 = .ok (.iaload, 1) := by decide +kernel
theorem dX2_place_119 : decode cX2_place 119 = .ok (.iadd, 1) := by decide +kernel
theorem dX2_place_120 : decode cX2_place 120 = .ok (.invokestatic 65, 3) := by decide +kernel
theorem dX2_place_123 : decode cX2_place 123 = .ok (.aload_n 0, 1) := by decide +kernel
theorem dX2_place_124 : decode cX2_place 124 = .ok (.getfield 29, 3) := by decide +kernel
theorem dX2_place_127 : decode cX2_place 127 = .ok (.iload 5, 2) := by decide +kernel
theorem dX2_place_129 : decode cX2_place 129 = .ok (.dup2, 1) := by decide +kernel
theorem dX2_place_130 : decode cX2_place 130 = .ok (.iaload, 1) := by decide +kernel
theorem dX2_place_131 : decode cX2_place 131 = .ok (.iload 4, 2) := by decide +kernel
theorem dX2_place_133 : decode cX2_place 133 = .ok (.iconst (-1), 1) := by decide +kernel
theorem dX2_place_134 : decode cX2_place 134 = .ok (.ixor, 1) := by decide +kernel
theorem dX2_place_135 : decode cX2_place 135 = .ok (.iand, 1) := by decide +kernel
theorem dX2_place_136 : decode cX2_place 136 = .ok (.iastore, 1) := by decide +kernel
theorem dX2_place_137 : decode cX2_place 137 = .ok (.iinc 5 1, 3) := by decide +kernel
theorem dX2_place_140 : decode cX2_place 140 = .ok (.goto (-88), 3) := by decide +kernel
theorem dX2_place_143 : decode cX2_place 143 = .ok (.return_, 1) := by decide +kernel
