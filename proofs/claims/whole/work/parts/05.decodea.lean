theorem dX0_init_0 : decode cX0_init 0 = .ok (.aload_n 0, 1) := by decide +kernel
theorem dX0_init_1 : decode cX0_init 1 = .ok (.invokespecial 3, 3) := by decide +kernel
theorem dX0_init_4 : decode cX0_init 4 = .ok (.aload_n 0, 1) := by decide +kernel
theorem dX0_init_5 : decode cX0_init 5 = .ok (.sipush 256, 3) := by decide +kernel
theorem dX0_init_8 : decode cX0_init 8 = .ok (.newarray .int, 2) := by decide +kernel
theorem dX0_init_10 : decode cX0_init 10 = .ok (.putfield 9, 3) := by decide +kernel
theorem dX0_init_13 : decode cX0_init 13 = .ok (.aload_n 0, 1) := by decide +kernel
theorem dX0_init_14 : decode cX0_init 14 = .ok (.iconst 0, 1) := by decide +kernel
theorem dX0_init_15 : decode cX0_init 15 = .ok (.putfield 15, 3) := by decide +kernel
theorem dX0_init_18 : decode cX0_init 18 = .ok (.return_, 1) := by decide +kernel
theorem dX0_gather_0 : decode cX0_gather 0 = .ok (.aload_n 0, 1) := by decide +kernel
theorem dX0_gather_1 : decode cX0_gather 1 = .ok (.iconst 0, 1) := by decide +kernel
theorem dX0_gather_2 : decode cX0_gather 2 = .ok (.putfield 15, 3) := by decide +kernel
theorem dX0_gather_5 : decode cX0_gather 5 = .ok (.aload_n 1, 1) := by decide +kernel
theorem dX0_gather_6 : decode cX0_gather 6 = .ok (.getfield 19, 3) := by decide +kernel
theorem dX0_gather_9 : decode cX0_gather 9 = .ok (.iconst 2, 1) := by decide +kernel
theorem dX0_gather_10 : decode cX0_gather 10 = .ok (.if_icmp .ge 4, 3) := by decide +kernel
theorem dX0_gather_13 : decode cX0_gather 13 = .ok (.return_, 1) := by decide +kernel
theorem dX0_gather_14 : decode cX0_gather 14 = .ok (.ldc 24, 2) := by decide +kernel
theorem dX0_gather_16 : decode cX0_gather 16 = .ok (.istore_n 2, 1) := by decide +kernel
theorem dX0_gather_17 : decode cX0_gather 17 = .ok (.iconst 1, 1) := by decide +kernel
theorem dX0_gather_18 : decode cX0_gather 18 = .ok (.istore_n 3, 1) := by decide +kernel
theorem dX0_gather_19 : decode cX0_gather 19 = .ok (.iload_n 3, 1) := by decide +kernel
theorem dX0_gather_20 : decode cX0_gather 20 = .ok (.iconst 1, 1) := by decide +kernel
theorem dX0_gather_21 : decode cX0_gather 21 = .ok (.aload_n 1, 1) := by decide +kernel
theorem dX0_gather_22 : decode cX0_gather 22 = .ok (.getfield 19, 3) := by decide +kernel
theorem dX0_gather_25 : decode cX0_gather 25 = .ok (.iconst 1, 1) := by decide +kernel
theorem dX0_gather_26 : decode cX0_gather 26 = .ok (.isub, 1) := by decide +kernel
theorem dX0_gather_27 : decode cX0_gather 27 = .ok (.ishl, 1) := by decide +kernel
theorem dX0_gather_28 : decode cX0_gather 28 = .ok (.if_icmp .ge 68, 3) := by decide +kernel
theorem dX0_gather_31 : decode cX0_gather 31 = .ok (.iload_n 3, 1) := by decide +kernel
theorem dX0_gather_32 : decode cX0_gather 32 = .ok (.aload_n 1, 1) := by decide +kernel
theorem dX0_gather_33 : decode cX0_gather 33 = .ok (.getfield 19, 3) := by decide +kernel
theorem dX0_gather_36 : decode cX0_gather 36 = .ok (.invokestatic 25, 3) := by decide +kernel
theorem dX0_gather_39 : decode cX0_gather 39 = .ok (.istore 4, 2) := by decide +kernel
theorem dX0_gather_41 : decode cX0_gather 41 = .ok (.aload_n 1, 1) := by decide +kernel
theorem dX0_gather_42 : decode cX0_gather 42 = .ok (.iload 4, 2) := by decide +kernel
theorem dX0_gather_44 : decode cX0_gather 44 = .ok (.invokevirtual 29, 3) := by decide +kernel
theorem dX0_gather_47 : decode cX0_gather 47 = .ok (.istore 5, 2) := by decide +kernel
theorem dX0_gather_49 : decode cX0_gather 49 = .ok (.iload 5, 2) := by decide +kernel
theorem dX0_gather_51 : decode cX0_gather 51 = .ok (.iload_n 2, 1) := by decide +kernel
theorem dX0_gather_52 : decode cX0_gather 52 = .ok (.if_icmp .ge 11, 3) := by decide +kernel
theorem dX0_gather_55 : decode cX0_gather 55 = .ok (.iload 5, 2) := by decide +kernel
theorem dX0_gather_57 : decode cX0_gather 57 = .ok (.istore_n 2, 1) := by decide +kernel
theorem dX0_gather_58 : decode cX0_gather 58 = .ok (.aload_n 0, 1) := by decide +kernel
theorem dX0_gather_59 : decode cX0_gather 59 = .ok (.iconst 0, 1) := by decide +kernel
theorem dX0_gather_60 : decode cX0_gather 60 = .ok (.putfield 15, 3) := by decide +kernel
theorem dX0_gather_63 : decode cX0_gather 63 = .ok (.iload 5, 2) := by decide +kernel
theorem dX0_gather_65 : decode cX0_gather 65 = .ok (.iload_n 2, 1) := by decide +kernel
theorem dX0_gather_66 : decode cX0_gather 66 = .ok (.if_icmp .ne 24, 3) := by decide +kernel
theorem dX0_gather_69 : decode cX0_gather 69 = .ok (.aload_n 0, 1) := by decide +kernel
theorem dX0_gather_70 : decode cX0_gather 70 = .ok (.getfield 9, 3) := by decide +kernel
theorem dX0_gather_73 : decode cX0_gather 73 = .ok (.aload_n 0, 1) := by decide +kernel
theorem dX0_gather_74 : decode cX0_gather 74 = .ok (.getfield 15, 3) := by decide +kernel
theorem dX0_gather_77 : decode cX0_gather 77 = .ok (.iload 4, 2) := by decide +kernel
theorem dX0_gather_79 : decode cX0_gather 79 = .ok (.iastore, 1) := by decide +kernel
theorem dX0_gather_80 : decode cX0_gather 80 = .ok (.aload_n 0, 1) := by decide +kernel
theorem dX0_gather_81 : decode cX0_gather 81 = .ok (.dup, 1) := by decide +kernel
theorem dX0_gather_82 : decode cX0_gather 82 = .ok (.getfield 15, 3) := by decide +kernel
theorem dX0_gather_85 : decode cX0_gather 85 = .ok (.iconst 1, 1) := by decide +kernel
theorem dX0_gather_86 : decode cX0_gather 86 = .ok (.iadd, 1) := by decide +kernel
theorem dX0_gather_87 : decode cX0_gather 87 = .ok (.putfield 15, 3) := by decide +kernel
theorem dX0_gather_90 : decode cX0_gather 90 = .ok (.iinc 3 1, 3) := by decide +kernel
theorem dX0_gather_93 : decode cX0_gather 93 = .ok (.goto (-74), 3) := by decide +kernel
theorem dX0_gather_96 : decode cX0_gather 96 = .ok (.return_, 1) := by decide +kernel
theorem dX0_sideOf_0 : decode cX0_sideOf 0 = .ok (.iload_n 1, 1) := by decide +kernel
theorem dX0_sideOf_1 : decode cX0_sideOf 1 = .ok (.ifCond .lt 11, 3) := by decide +kernel
theorem dX0_sideOf_4 : decode cX0_sideOf 4 = .ok (.iload_n 1, 1) := by decide +kernel
theorem dX0_sideOf_5 : decode cX0_sideOf 5 = .ok (.aload_n 0, 1) := by decide +kernel
theorem dX0_sideOf_6 : decode cX0_sideOf 6 = .ok (.getfield 15, 3) := by decide +kernel
theorem dX0_sideOf_9 : decode cX0_sideOf 9 = .ok (.if_icmp .lt 5, 3) := by decide +kernel
theorem dX0_sideOf_12 : decode cX0_sideOf 12 = .ok (.iconst (-1), 1) := by decide +kernel
theorem dX0_sideOf_13 : decode cX0_sideOf 13 = .ok (.ireturn, 1) := by decide +kernel
theorem dX0_sideOf_14 : decode cX0_sideOf 14 = .ok (.aload_n 0, 1) := by decide +kernel
theorem dX0_sideOf_15 : decode cX0_sideOf 15 = .ok (.getfield 9, 3) := by decide +kernel
theorem dX0_sideOf_18 : decode cX0_sideOf 18 = .ok (.iload_n 1, 1) := by decide +kernel
theorem dX0_sideOf_19 : decode cX0_sideOf 19 = .ok (.iaload, 1) := by decide +kernel
theorem dX0_sideOf_20 : decode cX0_sideOf 20 = .ok (.iload_n 2, 1) := by decide +kernel
theorem dX0_sideOf_21 : decode cX0_sideOf 21 = .ok (.invokestatic 33, 3) := by decide +kernel
theorem dX0_sideOf_24 : decode cX0_sideOf 24 = .ok (.ifCond .eq 7, 3) := by decide +kernel
theorem dX0_sideOf_27 : decode cX0_sideOf 27 = .ok (.iconst 1, 1) := by decide +kernel
theorem dX0_sideOf_28 : decode cX0_sideOf 28 = .ok (.goto 4, 3) := by decide +kernel
theorem dX0_sideOf_31 : decode cX0_sideOf 31 = .ok (.iconst 0, 1) := by decide +kernel
theorem dX0_sideOf_32 : decode cX0_sideOf 32 = .ok (.ireturn, 1) := by decide +kernel
theorem dX0_heapOf_0 : decode cX0_heapOf 0 = .ok (.iconst 0, 1) := by decide +kernel
theorem dX0_heapOf_1 : decode cX0_heapOf 1 = .ok (.istore_n 2, 1) := by decide +kernel
theorem dX0_heapOf_2 : decode cX0_heapOf 2 = .ok (.iconst 1, 1) := by decide +kernel
theorem dX0_heapOf_3 : decode cX0_heapOf 3 = .ok (.istore_n 3, 1) := by decide +kernel
theorem dX0_heapOf_4 : decode cX0_heapOf 4 = .ok (.iload_n 3, 1) := by decide +kernel
theorem dX0_heapOf_5 : decode cX0_heapOf 5 = .ok (.iload_n 1, 1) := by decide +kernel
theorem dX0_heapOf_6 : decode cX0_heapOf 6 = .ok (.if_icmp .ge 27, 3) := by decide +kernel
theorem dX0_heapOf_9 : decode cX0_heapOf 9 = .ok (.iload_n 0, 1) := by decide +kernel
theorem dX0_heapOf_10 : decode cX0_heapOf 10 = .ok (.iload_n 1, 1) := by decide +kernel
theorem dX0_heapOf_11 : decode cX0_heapOf 11 = .ok (.iconst 1, 1) := by decide +kernel
theorem dX0_heapOf_12 : decode cX0_heapOf 12 = .ok (.isub, 1) := by decide +kernel
theorem dX0_heapOf_13 : decode cX0_heapOf 13 = .ok (.iload_n 3, 1) := by decide +kernel
theorem dX0_heapOf_14 : decode cX0_heapOf 14 = .ok (.isub, 1) := by decide +kernel
theorem dX0_heapOf_15 : decode cX0_heapOf 15 = .ok (.invokestatic 33, 3) := by decide +kernel
theorem dX0_heapOf_18 : decode cX0_heapOf 18 = .ok (.ifCond .eq 9, 3) := by decide +kernel
theorem dX0_heapOf_21 : decode cX0_heapOf 21 = .ok (.iload_n 2, 1) := by decide +kernel
theorem dX0_heapOf_22 : decode cX0_heapOf 22 = .ok (.iconst 1, 1) := by decide +kernel
theorem dX0_heapOf_23 : decode cX0_heapOf 23 = .ok (.iload_n 3, 1) := by decide +kernel
theorem dX0_heapOf_24 : decode cX0_heapOf 24 = .ok (.ishl, 1) := by decide +kernel
theorem dX0_heapOf_25 : decode cX0_heapOf 25 = .ok (.ior, 1) := by decide +kernel
theorem dX0_heapOf_26 : decode cX0_heapOf 26 = .ok (.istore_n 2, 1) := by decide +kernel
theorem dX0_heapOf_27 : decode cX0_heapOf 27 = .ok (.iinc 3 1, 3) := by decide +kernel
theorem dX0_heapOf_30 : decode cX0_heapOf 30 = .ok (.goto (-26), 3) := by decide +kernel
theorem dX0_heapOf_33 : decode cX0_heapOf 33 = .ok (.iload_n 2, 1) := by decide +kernel
theorem dX0_heapOf_34 : decode cX0_heapOf 34 = .ok (.ireturn, 1) := by decide +kernel
theorem dX1_init_0 : decode cX1_init 0 = .ok (.aload_n 0, 1) := by decide +kernel
theorem dX1_init_1 : decode cX1_init 1 = .ok (.invokespecial 3, 3) := by decide +kernel
theorem dX1_init_4 : decode cX1_init 4 = .ok (.aload_n 0, 1) := by decide +kernel
theorem dX1_init_5 : decode cX1_init 5 = .ok (.bipush 24, 2) := by decide +kernel
theorem dX1_init_7 : decode cX1_init 7 = .ok (.newarray .int, 2) := by decide +kernel
theorem dX1_init_9 : decode cX1_init 9 = .ok (.putfield 9, 3) := by decide +kernel
theorem dX1_init_12 : decode cX1_init 12 = .ok (.aload_n 0, 1) := by decide +kernel
theorem dX1_init_13 : decode cX1_init 13 = .ok (.bipush 24, 2) := by decide +kernel
theorem dX1_init_15 : decode cX1_init 15 = .ok (.newarray .int, 2) := by decide +kernel
theorem dX1_init_17 : decode cX1_init 17 = .ok (.putfield 15, 3) := by decide +kernel
theorem dX1_init_20 : decode cX1_init 20 = .ok (.aload_n 0, 1) := by decide +kernel
theorem dX1_init_21 : decode cX1_init 21 = .ok (.bipush 24, 2) := by decide +kernel
theorem dX1_init_23 : decode cX1_init 23 = .ok (.newarray .int, 2) := by decide +kernel
theorem dX1_init_25 : decode cX1_init 25 = .ok (.putfield 18, 3) := by decide +kernel
theorem dX1_init_28 : decode cX1_init 28 = .ok (.aload_n 0, 1) := by decide +kernel
theorem dX1_init_29 : decode cX1_init 29 = .ok (.bipush 24, 2) := by decide +kernel
theorem dX1_init_31 : decode cX1_init 31 = .ok (.newarray .boolean, 2) := by decide +kernel
theorem dX1_init_33 : decode cX1_init 33 = .ok (.putfield 21, 3) := by decide +kernel
theorem dX1_init_36 : decode cX1_init 36 = .ok (.aload_n 0, 1) := by decide +kernel
theorem dX1_init_37 : decode cX1_init 37 = .ok (.bipush 24, 2) := by decide +kernel
theorem dX1_init_39 : decode cX1_init 39 = .ok (.newarray .boolean, 2) := by decide +kernel
theorem dX1_init_41 : decode cX1_init 41 = .ok (.putfield 25, 3) := by decide +kernel
theorem dX1_init_44 : decode cX1_init 44 = .ok (.aload_n 0, 1) := by decide +kernel
theorem dX1_init_45 : decode cX1_init 45 = .ok (.iconst 0, 1) := by decide +kernel
theorem dX1_init_46 : decode cX1_init 46 = .ok (.putfield 28, 3) := by decide +kernel
theorem dX1_init_49 : decode cX1_init 49 = .ok (.aload_n 0, 1) := by decide +kernel
theorem dX1_init_50 : decode cX1_init 50 = .ok (.iconst 0, 1) := by decide +kernel
theorem dX1_init_51 : decode cX1_init 51 = .ok (.putfield 32, 3) := by decide +kernel
theorem dX1_init_54 : decode cX1_init 54 = .ok (.aload_n 0, 1) := by decide +kernel
theorem dX1_init_55 : decode cX1_init 55 = .ok (.bipush 9, 2) := by decide +kernel
theorem dX1_init_57 : decode cX1_init 57 = .ok (.newarray .int, 2) := by decide +kernel
theorem dX1_init_59 : decode cX1_init 59 = .ok (.putfield 35, 3) := by decide +kernel
theorem dX1_init_62 : decode cX1_init 62 = .ok (.aload_n 0, 1) := by decide +kernel
theorem dX1_init_63 : decode cX1_init 63 = .ok (.bipush 9, 2) := by decide +kernel
theorem dX1_init_65 : decode cX1_init 65 = .ok (.newarray .int, 2) := by decide +kernel
theorem dX1_init_67 : decode cX1_init 67 = .ok (.putfield 38, 3) := by decide +kernel
theorem dX1_init_70 : decode cX1_init 70 = .ok (.return_, 1) := by decide +kernel
theorem dX1_hasPost_0 : decode cX1_hasPost 0 = .ok (.iload_n 1, 1) := by decide +kernel
theorem dX1_hasPost_1 : decode cX1_hasPost 1 = .ok (.ifCond .lt 15, 3) := by decide +kernel
theorem dX1_hasPost_4 : decode cX1_hasPost 4 = .ok (.iload_n 1, 1) := by decide +kernel
theorem dX1_hasPost_5 : decode cX1_hasPost 5 = .ok (.aload_n 0, 1) := by decide +kernel
theorem dX1_hasPost_6 : decode cX1_hasPost 6 = .ok (.getfield 28, 3) := by decide +kernel
theorem dX1_hasPost_9 : decode cX1_hasPost 9 = .ok (.if_icmp .ge 7, 3) := by decide +kernel
theorem dX1_hasPost_12 : decode cX1_hasPost 12 = .ok (.iconst 1, 1) := by decide +kernel
theorem dX1_hasPost_13 : decode cX1_hasPost 13 = .ok (.goto 4, 3) := by decide +kernel
theorem dX1_hasPost_16 : decode cX1_hasPost 16 = .ok (.iconst 0, 1) := by decide +kernel
theorem dX1_hasPost_17 : decode cX1_hasPost 17 = .ok (.ireturn, 1) := by decide +kernel
theorem dX1_hasTwo_0 : decode cX1_hasTwo 0 = .ok (.aload_n 0, 1) := by decide +kernel
theorem dX1_hasTwo_1 : decode cX1_hasTwo 1 = .ok (.iload_n 1, 1) := by decide +kernel
theorem dX1_hasTwo_2 : decode cX1_hasTwo 2 = .ok (.invokevirtual 41, 3) := by decide +kernel
theorem dX1_hasTwo_5 : decode cX1_hasTwo 5 = .ok (.ifCond .eq 20, 3) := by decide +kernel
theorem dX1_hasTwo_8 : decode cX1_hasTwo 8 = .ok (.aload_n 0, 1) := by decide +kernel
theorem dX1_hasTwo_9 : decode cX1_hasTwo 9 = .ok (.iload_n 2, 1) := by decide +kernel
theorem dX1_hasTwo_10 : decode cX1_hasTwo 10 = .ok (.invokevirtual 41, 3) := by decide +kernel
theorem dX1_hasTwo_13 : decode cX1_hasTwo 13 = .ok (.ifCond .eq 12, 3) := by decide +kernel
theorem dX1_hasTwo_16 : decode cX1_hasTwo 16 = .ok (.iload_n 1, 1) := by decide +kernel
theorem dX1_hasTwo_17 : decode cX1_hasTwo 17 = .ok (.iload_n 2, 1) := by decide +kernel
theorem dX1_hasTwo_18 : decode cX1_hasTwo 18 = .ok (.if_icmp .eq 7, 3) := by decide +kernel
theorem dX1_hasTwo_21 : decode cX1_hasTwo 21 = .ok (.iconst 1, 1) := by decide +kernel
theorem dX1_hasTwo_22 : decode cX1_hasTwo 22 = .ok (.goto 4, 3) := by decide +kernel
theorem dX1_hasTwo_25 : decode cX1_hasTwo 25 = .ok (.iconst 0, 1) := by decide +kernel
theorem dX1_hasTwo_26 : decode cX1_hasTwo 26 = .ok (.ireturn, 1) := by decide +kernel
theorem dX1_hasLine_0 : decode cX1_hasLine 0 = .ok (.iload_n 1, 1) := by decide +kernel
theorem dX1_hasLine_1 : decode cX1_hasLine 1 = .ok (.ifCond .lt 24, 3) := by decide +kernel
theorem dX1_hasLine_4 : decode cX1_hasLine 4 = .ok (.iload_n 1, 1) := by decide +kernel
theorem dX1_hasLine_5 : decode cX1_hasLine 5 = .ok (.aload_n 0, 1) := by decide +kernel
theorem dX1_hasLine_6 : decode cX1_hasLine 6 = .ok (.getfield 32, 3) := by decide +kernel
theorem dX1_hasLine_9 : decode cX1_hasLine 9 = .ok (.if_icmp .ge 16, 3) := by decide +kernel
theorem dX1_hasLine_12 : decode cX1_hasLine 12 = .ok (.aload_n 0, 1) := by decide +kernel
theorem dX1_hasLine_13 : decode cX1_hasLine 13 = .ok (.getfield 25, 3) := by decide +kernel
theorem dX1_hasLine_16 : decode cX1_hasLine 16 = .ok (.iload_n 1, 1) := by decide +kernel
theorem dX1_hasLine_17 : decode cX1_hasLine 17 = .ok (.baload, 1) := by decide +kernel
theorem dX1_hasLine_18 : decode cX1_hasLine 18 = .ok (.ifCond .ne 7, 3) := by decide +kernel
theorem dX1_hasLine_21 : decode cX1_hasLine 21 = .ok (.iconst 1, 1) := by decide +kernel
theorem dX1_hasLine_22 : decode cX1_hasLine 22 = .ok (.goto 4, 3) := by decide +kernel
theorem dX1_hasLine_25 : decode cX1_hasLine 25 = .ok (.iconst 0, 1) := by decide +kernel
theorem dX1_hasLine_26 : decode cX1_hasLine 26 = .ok (.ireturn, 1) := by decide +kernel
theorem dX1_addPost_0 : decode cX1_addPost 0 = .ok (.iload_n 1, 1) := by decide +kernel
theorem dX1_addPost_1 : decode cX1_addPost 1 = .ok (.iconst 1, 1) := by decide +kernel
theorem dX1_addPost_2 : decode cX1_addPost 2 = .ok (.if_icmp .lt 18, 3) := by decide +kernel
theorem dX1_addPost_5 : decode cX1_addPost 5 = .ok (.iload_n 1, 1) := by decide +kernel
theorem dX1_addPost_6 : decode cX1_addPost 6 = .ok (.bipush 99, 2) := by decide +kernel
theorem dX1_addPost_8 : decode cX1_addPost 8 = .ok (.if_icmp .gt 12, 3) := by decide +kernel
theorem dX1_addPost_11 : decode cX1_addPost 11 = .ok (.aload_n 0, 1) := by decide +kernel
theorem dX1_addPost_12 : decode cX1_addPost 12 = .ok (.getfield 28, 3) := by decide +kernel
theorem dX1_addPost_15 : decode cX1_addPost 15 = .ok (.bipush 9, 2) := by decide +kernel
theorem dX1_addPost_17 : decode cX1_addPost 17 = .ok (.if_icmp .lt 5, 3) := by decide +kernel
theorem dX1_addPost_20 : decode cX1_addPost 20 = .ok (.iconst (-1), 1) := by decide +kernel
theorem dX1_addPost_21 : decode cX1_addPost 21 = .ok (.ireturn, 1) := by decide +kernel
theorem dX1_addPost_22 : decode cX1_addPost 22 = .ok (.aload_n 0, 1) := by decide +kernel
theorem dX1_addPost_23 : decode cX1_addPost 23 = .ok (.getfield 35, 3) := by decide +kernel
theorem dX1_addPost_26 : decode cX1_addPost 26 = .ok (.aload_n 0, 1) := by decide +kernel
theorem dX1_addPost_27 : decode cX1_addPost 27 = .ok (.getfield 28, 3) := by decide +kernel
theorem dX1_addPost_30 : decode cX1_addPost 30 = .ok (.iload_n 1, 1) := by decide +kernel
theorem dX1_addPost_31 : decode cX1_addPost 31 = .ok (.iastore, 1) := by decide +kernel
theorem dX1_addPost_32 : decode cX1_addPost 32 = .ok (.aload_n 0, 1) := by decide +kernel
theorem dX1_addPost_33 : decode cX1_addPost 33 = .ok (.dup, 1) := by decide +kernel
theorem dX1_addPost_34 : decode cX1_addPost 34 = .ok (.getfield 28, 3) := by decide +kernel
theorem dX1_addPost_37 : decode cX1_addPost 37 = .ok (.iconst 1, 1) := by decide +kernel
theorem dX1_addPost_38 : decode cX1_addPost 38 = .ok (.iadd, 1) := by decide +kernel
theorem dX1_addPost_39 : decode cX1_addPost 39 = .ok (.putfield 28, 3) := by decide +kernel
theorem dX1_addPost_42 : decode cX1_addPost 42 = .ok (.aload_n 0, 1) := by decide +kernel
theorem dX1_addPost_43 : decode cX1_addPost 43 = .ok (.getfield 28, 3) := by decide +kernel
theorem dX1_addPost_46 : decode cX1_addPost 46 = .ok (.iconst 1, 1) := by decide +kernel
theorem dX1_addPost_47 : decode cX1_addPost 47 = .ok (.isub, 1) := by decide +kernel
theorem dX1_addPost_48 : decode cX1_addPost 48 = .ok (.ireturn, 1) := by decide +kernel
theorem dX1_addLine_0 : decode cX1_addLine 0 = .ok (.aload_n 0, 1) := by decide +kernel
theorem dX1_addLine_1 : decode cX1_addLine 1 = .ok (.iload_n 1, 1) := by decide +kernel
theorem dX1_addLine_2 : decode cX1_addLine 2 = .ok (.iload_n 2, 1) := by decide +kernel
theorem dX1_addLine_3 : decode cX1_addLine 3 = .ok (.invokevirtual 45, 3) := by decide +kernel
theorem dX1_addLine_6 : decode cX1_addLine 6 = .ok (.ifCond .eq 22, 3) := by decide +kernel
theorem dX1_addLine_9 : decode cX1_addLine 9 = .ok (.iload_n 3, 1) := by decide +kernel
theorem dX1_addLine_10 : decode cX1_addLine 10 = .ok (.ifCond .lt 18, 3) := by decide +kernel
theorem dX1_addLine_13 : decode cX1_addLine 13 = .ok (.iload_n 3, 1) := by decide +kernel
theorem dX1_addLine_14 : decode cX1_addLine 14 = .ok (.bipush 99, 2) := by decide +kernel
theorem dX1_addLine_16 : decode cX1_addLine 16 = .ok (.if_icmp .gt 12, 3) := by decide +kernel
theorem dX1_addLine_19 : decode cX1_addLine 19 = .ok (.aload_n 0, 1) := by decide +kernel
theorem dX1_addLine_20 : decode cX1_addLine 20 = .ok (.getfield 32, 3) := by decide +kernel
theorem dX1_addLine_23 : decode cX1_addLine 23 = .ok (.bipush 24, 2) := by decide +kernel
theorem dX1_addLine_25 : decode cX1_addLine 25 = .ok (.if_icmp .lt 5, 3) := by decide +kernel
theorem dX1_addLine_28 : decode cX1_addLine 28 = .ok (.iconst (-1), 1) := by decide +kernel
theorem dX1_addLine_29 : decode cX1_addLine 29 = .ok (.ireturn, 1) := by decide +kernel
theorem dX1_addLine_30 : decode cX1_addLine 30 = .ok (.aload_n 0, 1) := by decide +kernel
theorem dX1_addLine_31 : decode cX1_addLine 31 = .ok (.getfield 9, 3) := by decide +kernel
theorem dX1_addLine_34 : decode cX1_addLine 34 = .ok (.aload_n 0, 1) := by decide +kernel
theorem dX1_addLine_35 : decode cX1_addLine 35 = .ok (.getfield 32, 3) := by decide +kernel
theorem dX1_addLine_38 : decode cX1_addLine 38 = .ok (.iload_n 1, 1) := by decide +kernel
theorem dX1_addLine_39 : decode cX1_addLine 39 = .ok (.iastore, 1) := by decide +kernel
theorem dX1_addLine_40 : decode cX1_addLine 40 = .ok (.aload_n 0, 1) := by decide +kernel
theorem dX1_addLine_41 : decode cX1_addLine 41 = .ok (.getfield 15, 3) := by decide +kernel
theorem dX1_addLine_44 : decode cX1_addLine 44 = .ok (.aload_n 0, 1) := by decide +kernel
theorem dX1_addLine_45 : decode cX1_addLine 45 = .ok (.getfield 32, 3) := by decide +kernel
theorem dX1_addLine_48 : decode cX1_addLine 48 = .ok (.iload_n 2, 1) := by decide +kernel
theorem dX1_addLine_49 : decode cX1_addLine 49 = .ok (.iastore, 1) := by decide +kernel
theorem dX1_addLine_50 : decode cX1_addLine 50 = .ok (.aload_n 0, 1) := by decide +kernel
theorem dX1_addLine_51 : decode cX1_addLine 51 = .ok (.getfield 18, 3) := by decide +kernel
theorem dX1_addLine_54 : decode cX1_addLine 54 = .ok (.aload_n 0, 1) := by decide +kernel
theorem dX1_addLine_55 : decode cX1_addLine 55 = .ok (.getfield 32, 3) := by decide +kernel
theorem dX1_addLine_58 : decode cX1_addLine 58 = .ok (.iload_n 3, 1) := by decide +kernel
theorem dX1_addLine_59 : decode cX1_addLine 59 = .ok (.iastore, 1) := by decide +kernel
theorem dX1_addLine_60 : decode cX1_addLine 60 = .ok (.aload_n 0, 1) := by decide +kernel
theorem dX1_addLine_61 : decode cX1_addLine 61 = .ok (.getfield 21, 3) := by decide +kernel
theorem dX1_addLine_64 : decode cX1_addLine 64 = .ok (.aload_n 0, 1) := by decide +kernel
theorem dX1_addLine_65 : decode cX1_addLine 65 = .ok (.getfield 32, 3) := by decide +kernel
theorem dX1_addLine_68 : decode cX1_addLine 68 = .ok (.iload 4, 2) := by decide +kernel
theorem dX1_addLine_70 : decode cX1_addLine 70 = .ok (.bastore, 1) := by decide +kernel
theorem dX1_addLine_71 : decode cX1_addLine 71 = .ok (.aload_n 0, 1) := by decide +kernel
theorem dX1_addLine_72 : decode cX1_addLine 72 = .ok (.dup, 1) := by decide +kernel
theorem dX1_addLine_73 : decode cX1_addLine 73 = .ok (.getfield 32, 3) := by decide +kernel
theorem dX1_addLine_76 : decode cX1_addLine 76 = .ok (.iconst 1, 1) := by decide +kernel
theorem dX1_addLine_77 : decode cX1_addLine 77 = .ok (.iadd, 1) := by decide +kernel
theorem dX1_addLine_78 : decode cX1_addLine 78 = .ok (.putfield 32, 3) := by decide +kernel
theorem dX1_addLine_81 : decode cX1_addLine 81 = .ok (.aload_n 0, 1) := by decide +kernel
theorem dX1_addLine_82 : decode cX1_addLine 82 = .ok (.getfield 32, 3) := by decide +kernel
theorem dX1_addLine_85 : decode cX1_addLine 85 = .ok (.iconst 1, 1) := by decide +kernel
theorem dX1_addLine_86 : decode cX1_addLine 86 = .ok (.isub, 1) := by decide +kernel
theorem dX1_addLine_87 : decode cX1_addLine 87 = .ok (.ireturn, 1) := by decide +kernel
theorem dX1_endLine_0 : decode cX1_endLine 0 = .ok (.aload_n 0, 1) := by decide +kernel
theorem dX1_endLine_1 : decode cX1_endLine 1 = .ok (.iload_n 1, 1) := by decide +kernel
theorem dX1_endLine_2 : decode cX1_endLine 2 = .ok (.invokevirtual 49, 3) := by decide +kernel
theorem dX1_endLine_5 : decode cX1_endLine 5 = .ok (.ifCond .ne 5, 3) := by decide +kernel
theorem dX1_endLine_8 : decode cX1_endLine 8 = .ok (.iconst 0, 1) := by decide +kernel
theorem dX1_endLine_9 : decode cX1_endLine 9 = .ok (.ireturn, 1) := by decide +kernel
theorem dX1_endLine_10 : decode cX1_endLine 10 = .ok (.aload_n 0, 1) := by decide +kernel
theorem dX1_endLine_11 : decode cX1_endLine 11 = .ok (.getfield 25, 3) := by decide +kernel
theorem dX1_endLine_14 : decode cX1_endLine 14 = .ok (.iload_n 1, 1) := by decide +kernel
theorem dX1_endLine_15 : decode cX1_endLine 15 = .ok (.iconst 1, 1) := by decide +kernel
theorem dX1_endLine_16 : decode cX1_endLine 16 = .ok (.bastore, 1) := by decide +kernel
theorem dX1_endLine_17 : decode cX1_endLine 17 = .ok (.iconst 1, 1) := by decide +kernel
theorem dX1_endLine_18 : decode cX1_endLine 18 = .ok (.ireturn, 1) := by decide +kernel
theorem dX1_linesLeft_0 : decode cX1_linesLeft 0 = .ok (.iconst 0, 1) := by decide +kernel
theorem dX1_linesLeft_1 : decode cX1_linesLeft 1 = .ok (.istore_n 1, 1) := by decide +kernel
theorem dX1_linesLeft_2 : decode cX1_linesLeft 2 = .ok (.iconst 0, 1) := by decide +kernel
theorem dX1_linesLeft_3 : decode cX1_linesLeft 3 = .ok (.istore_n 2, 1) := by decide +kernel
theorem dX1_linesLeft_4 : decode cX1_linesLeft 4 = .ok (.iload_n 2, 1) := by decide +kernel
theorem dX1_linesLeft_5 : decode cX1_linesLeft 5 = .ok (.aload_n 0, 1) := by decide +kernel
theorem dX1_linesLeft_6 : decode cX1_linesLeft 6 = .ok (.getfield 32, 3) := by decide +kernel
theorem dX1_linesLeft_9 : decode cX1_linesLeft 9 = .ok (.if_icmp .ge 21, 3) := by decide +kernel
theorem dX1_linesLeft_12 : decode cX1_linesLeft 12 = .ok (.aload_n 0, 1) := by decide +kernel
theorem dX1_linesLeft_13 : decode cX1_linesLeft 13 = .ok (.getfield 25, 3) := by decide +kernel
theorem dX1_linesLeft_16 : decode cX1_linesLeft 16 = .ok (.iload_n 2, 1) := by decide +kernel
theorem dX1_linesLeft_17 : decode cX1_linesLeft 17 = .ok (.baload, 1) := by decide +kernel
theorem dX1_linesLeft_18 : decode cX1_linesLeft 18 = .ok (.ifCond .ne 6, 3) := by decide +kernel
theorem dX1_linesLeft_21 : decode cX1_linesLeft 21 = .ok (.iinc 1 1, 3) := by decide +kernel
theorem dX1_linesLeft_24 : decode cX1_linesLeft 24 = .ok (.iinc 2 1, 3) := by decide +kernel
theorem dX1_linesLeft_27 : decode cX1_linesLeft 27 = .ok (.goto (-23), 3) := by decide +kernel
theorem dX1_linesLeft_30 : decode cX1_linesLeft 30 = .ok (.iload_n 1, 1) := by decide +kernel
theorem dX1_linesLeft_31 : decode cX1_linesLeft 31 = .ok (.ireturn, 1) := by decide +kernel
theorem dX1_priceOfHeap_0 : decode cX1_priceOfHeap 0 = .ok (.iconst 0, 1) := by decide +kernel
theorem dX1_priceOfHeap_1 : decode cX1_priceOfHeap 1 = .ok (.istore_n 2, 1) := by decide +kernel
theorem dX1_priceOfHeap_2 : decode cX1_priceOfHeap 2 = .ok (.iconst 0, 1) := by decide +kernel
theorem dX1_priceOfHeap_3 : decode cX1_priceOfHeap 3 = .ok (.istore_n 3, 1) := by decide +kernel
theorem dX1_priceOfHeap_4 : decode cX1_priceOfHeap 4 = .ok (.iload_n 3, 1) := by decide +kernel
theorem dX1_priceOfHeap_5 : decode cX1_priceOfHeap 5 = .ok (.aload_n 0, 1) := by decide +kernel
theorem dX1_priceOfHeap_6 : decode cX1_priceOfHeap 6 = .ok (.getfield 28, 3) := by decide +kernel
theorem dX1_priceOfHeap_9 : decode cX1_priceOfHeap 9 = .ok (.if_icmp .ge 26, 3) := by decide +kernel
theorem dX1_priceOfHeap_12 : decode cX1_priceOfHeap 12 = .ok (.iload_n 1, 1) := by decide +kernel
theorem dX1_priceOfHeap_13 : decode cX1_priceOfHeap 13 = .ok (.iload_n 3, 1) := by decide +kernel
theorem dX1_priceOfHeap_14 : decode cX1_priceOfHeap 14 = .ok (.invokestatic 52, 3) := by decide +kernel
theorem dX1_priceOfHeap_17 : decode cX1_priceOfHeap 17 = .ok (.ifCond .eq 12, 3) := by decide +kernel
theorem dX1_priceOfHeap_20 : decode cX1_priceOfHeap 20 = .ok (.iload_n 2, 1) := by decide +kernel
theorem dX1_priceOfHeap_21 : decode cX1_priceOfHeap 21 = .ok (.aload_n 0, 1) := by decide +kernel
theorem dX1_priceOfHeap_22 : decode cX1_priceOfHeap 22 = .ok (.getfield 35, 3) := by decide +kernel
theorem dX1_priceOfHeap_25 : decode cX1_priceOfHeap 25 = .ok (.iload_n 3, 1) := by decide +kernel
theorem dX1_priceOfHeap_26 : decode cX1_priceOfHeap 26 = .ok (.iaload, 1) := by decide +kernel
theorem dX1_priceOfHeap_27 : decode cX1_priceOfHeap 27 = .ok (.iadd, 1) := by decide +kernel
theorem dX1_priceOfHeap_28 : decode cX1_priceOfHeap 28 = .ok (.istore_n 2, 1) := by decide +kernel
theorem dX1_priceOfHeap_29 : decode cX1_priceOfHeap 29 = .ok (.iinc 3 1, 3) := by decide +kernel
theorem dX1_priceOfHeap_32 : decode cX1_priceOfHeap 32 = .ok (.goto (-28), 3) := by decide +kernel
theorem dX1_priceOfHeap_35 : decode cX1_priceOfHeap 35 = .ok (.iload_n 2, 1) := by decide +kernel
theorem dX1_priceOfHeap_36 : decode cX1_priceOfHeap 36 = .ok (.ireturn, 1) := by decide +kernel
theorem dX1_sumAround_0 : decode cX1_sumAround 0 = .ok (.iconst 0, 1) := by decide +kernel
theorem dX1_sumAround_1 : decode cX1_sumAround 1 = .ok (.istore_n 2, 1) := by decide +kernel
theorem dX1_sumAround_2 : decode cX1_sumAround 2 = .ok (.iconst 0, 1) := by decide +kernel
theorem dX1_sumAround_3 : decode cX1_sumAround 3 = .ok (.istore_n 3, 1) := by decide +kernel
theorem dX1_sumAround_4 : decode cX1_sumAround 4 = .ok (.iload_n 3, 1) := by decide +kernel
theorem dX1_sumAround_5 : decode cX1_sumAround 5 = .ok (.aload_n 0, 1) := by decide +kernel
theorem dX1_sumAround_6 : decode cX1_sumAround 6 = .ok (.getfield 32, 3) := by decide +kernel
theorem dX1_sumAround_9 : decode cX1_sumAround 9 = .ok (.if_icmp .ge 50, 3) := by decide +kernel
theorem dX1_sumAround_12 : decode cX1_sumAround 12 = .ok (.aload_n 0, 1) := by decide +kernel
theorem dX1_sumAround_13 : decode cX1_sumAround 13 = .ok (.getfield 25, 3) := by decide +kernel
theorem dX1_sumAround_16 : decode cX1_sumAround 16 = .ok (.iload_n 3, 1) := by decide +kernel
theorem dX1_sumAround_17 : decode cX1_sumAround 17 = .ok (.baload, 1) := by decide +kernel
theorem dX1_sumAround_18 : decode cX1_sumAround 18 = .ok (.ifCond .ne 35, 3) := by decide +kernel
theorem dX1_sumAround_21 : decode cX1_sumAround 21 = .ok (.iload_n 1, 1) := by decide +kernel
theorem dX1_sumAround_22 : decode cX1_sumAround 22 = .ok (.aload_n 0, 1) := by decide +kernel
theorem dX1_sumAround_23 : decode cX1_sumAround 23 = .ok (.getfield 9, 3) := by decide +kernel
theorem dX1_sumAround_26 : decode cX1_sumAround 26 = .ok (.iload_n 3, 1) := by decide +kernel
theorem dX1_sumAround_27 : decode cX1_sumAround 27 = .ok (.iaload, 1) := by decide +kernel
theorem dX1_sumAround_28 : decode cX1_sumAround 28 = .ok (.invokestatic 52, 3) := by decide +kernel
theorem dX1_sumAround_31 : decode cX1_sumAround 31 = .ok (.iload_n 1, 1) := by decide +kernel
theorem dX1_sumAround_32 : decode cX1_sumAround 32 = .ok (.aload_n 0, 1) := by decide +kernel
theorem dX1_sumAround_33 : decode cX1_sumAround 33 = .ok (.getfield 15, 3) := by decide +kernel
theorem dX1_sumAround_36 : decode cX1_sumAround 36 = .ok (.iload_n 3, 1) := by decide +kernel
theorem dX1_sumAround_37 : decode cX1_sumAround 37 = .ok (.iaload, 1) := by decide +kernel
theorem dX1_sumAround_38 : decode cX1_sumAround 38 = .ok (.invokestatic 52, 3) := by decide +kernel
theorem dX1_sumAround_41 : decode cX1_sumAround 41 = .ok (.if_icmp .eq 12, 3) := by decide +kernel
theorem dX1_sumAround_44 : decode cX1_sumAround 44 = .ok (.iload_n 2, 1) := by decide +kernel
theorem dX1_sumAround_45 : decode cX1_sumAround 45 = .ok (.aload_n 0, 1) := by decide +kernel
theorem dX1_sumAround_46 : decode cX1_sumAround 46 = .ok (.getfield 18, 3) := by decide +kernel
theorem dX1_sumAround_49 : decode cX1_sumAround 49 = .ok (.iload_n 3, 1) := by decide +kernel
theorem dX1_sumAround_50 : decode cX1_sumAround 50 = .ok (.iaload, 1) := by decide +kernel
theorem dX1_sumAround_51 : decode cX1_sumAround 51 = .ok (.iadd, 1) := by decide +kernel
theorem dX1_sumAround_52 : decode cX1_sumAround 52 = .ok (.istore_n 2, 1) := by decide +kernel
theorem dX1_sumAround_53 : decode cX1_sumAround 53 = .ok (.iinc 3 1, 3) := by decide +kernel
theorem dX1_sumAround_56 : decode cX1_sumAround 56 = .ok (.goto (-52), 3) := by decide +kernel
theorem dX1_sumAround_59 : decode cX1_sumAround 59 = .ok (.iload_n 2, 1) := by decide +kernel
theorem dX1_sumAround_60 : decode cX1_sumAround 60 = .ok (.ireturn, 1) := by decide +kernel
theorem dX1_isBridge_0 : decode cX1_isBridge 0 = .ok (.aload_n 0, 1) := by decide +kernel
theorem dX1_isBridge_1 : decode cX1_isBridge 1 = .ok (.iload_n 1, 1) := by decide +kernel
theorem dX1_isBridge_2 : decode cX1_isBridge 2 = .ok (.invokevirtual 49, 3) := by decide +kernel
theorem dX1_isBridge_5 : decode cX1_isBridge 5 = .ok (.ifCond .ne 5, 3) := by decide +kernel
theorem dX1_isBridge_8 : decode cX1_isBridge 8 = .ok (.iconst 0, 1) := by decide +kernel
theorem dX1_isBridge_9 : decode cX1_isBridge 9 = .ok (.ireturn, 1) := by decide +kernel
theorem dX1_isBridge_10 : decode cX1_isBridge 10 = .ok (.aload_n 0, 1) := by decide +kernel
theorem dX1_isBridge_11 : decode cX1_isBridge 11 = .ok (.iload_n 1, 1) := by decide +kernel
theorem dX1_isBridge_12 : decode cX1_isBridge 12 = .ok (.invokevirtual 55, 3) := by decide +kernel
theorem dX1_isBridge_15 : decode cX1_isBridge 15 = .ok (.aload_n 0, 1) := by decide +kernel
theorem dX1_isBridge_16 : decode cX1_isBridge 16 = .ok (.aload_n 0, 1) := by decide +kernel
theorem dX1_isBridge_17 : decode cX1_isBridge 17 = .ok (.getfield 9, 3) := by decide +kernel
theorem dX1_isBridge_20 : decode cX1_isBridge 20 = .ok (.iload_n 1, 1) := by decide +kernel
theorem dX1_isBridge_21 : decode cX1_isBridge 21 = .ok (.iaload, 1) := by decide +kernel
theorem dX1_isBridge_22 : decode cX1_isBridge 22 = .ok (.iconst 0, 1) := by decide +kernel
theorem dX1_isBridge_23 : decode cX1_isBridge 23 = .ok (.invokevirtual 59, 3) := by decide +kernel
theorem dX1_isBridge_26 : decode cX1_isBridge 26 = .ok (.aload_n 0, 1) := by decide +kernel
theorem dX1_isBridge_27 : decode cX1_isBridge 27 = .ok (.getfield 15, 3) := by decide +kernel
theorem dX1_isBridge_30 : decode cX1_isBridge 30 = .ok (.iload_n 1, 1) := by decide +kernel
theorem dX1_isBridge_31 : decode cX1_isBridge 31 = .ok (.iaload, 1) := by decide +kernel
theorem dX1_isBridge_32 : decode cX1_isBridge 32 = .ok (.invokestatic 52, 3) := by decide +kernel
theorem dX1_isBridge_35 : decode cX1_isBridge 35 = .ok (.ifCond .ne 7, 3) := by decide +kernel
theorem dX1_isBridge_38 : decode cX1_isBridge 38 = .ok (.iconst 1, 1) := by decide +kernel
theorem dX1_isBridge_39 : decode cX1_isBridge 39 = .ok (.goto 4, 3) := by decide +kernel
theorem dX1_isBridge_42 : decode cX1_isBridge 42 = .ok (.iconst 0, 1) := by decide +kernel
theorem dX1_isBridge_43 : decode cX1_isBridge 43 = .ok (.ireturn, 1) := by decide +kernel
theorem dX1_isHinge_0 : decode cX1_isHinge 0 = .ok (.aload_n 0, 1) := by decide +kernel
theorem dX1_isHinge_1 : decode cX1_isHinge 1 = .ok (.iload_n 1, 1) := by decide +kernel
theorem dX1_isHinge_2 : decode cX1_isHinge 2 = .ok (.invokevirtual 41, 3) := by decide +kernel
theorem dX1_isHinge_5 : decode cX1_isHinge 5 = .ok (.ifCond .ne 5, 3) := by decide +kernel
theorem dX1_isHinge_8 : decode cX1_isHinge 8 = .ok (.iconst 0, 1) := by decide +kernel
theorem dX1_isHinge_9 : decode cX1_isHinge 9 = .ok (.ireturn, 1) := by decide +kernel
theorem dX1_isHinge_10 : decode cX1_isHinge 10 = .ok (.aload_n 0, 1) := by decide +kernel
theorem dX1_isHinge_11 : decode cX1_isHinge 11 = .ok (.iconst (-1), 1) := by decide +kernel
theorem dX1_isHinge_12 : decode cX1_isHinge 12 = .ok (.invokevirtual 55, 3) := by decide +kernel
theorem dX1_isHinge_15 : decode cX1_isHinge 15 = .ok (.iconst 1, 1) := by decide +kernel
theorem dX1_isHinge_16 : decode cX1_isHinge 16 = .ok (.iload_n 1, 1) := by decide +kernel
theorem dX1_isHinge_17 : decode cX1_isHinge 17 = .ok (.ishl, 1) := by decide +kernel
theorem dX1_isHinge_18 : decode cX1_isHinge 18 = .ok (.istore_n 2, 1) := by decide +kernel
theorem dX1_isHinge_19 : decode cX1_isHinge 19 = .ok (.aload_n 0, 1) := by decide +kernel
theorem dX1_isHinge_20 : decode cX1_isHinge 20 = .ok (.iload_n 1, 1) := by decide +kernel
theorem dX1_isHinge_21 : decode cX1_isHinge 21 = .ok (.iconst 0, 1) := by decide +kernel
theorem dX1_isHinge_22 : decode cX1_isHinge 22 = .ok (.invokevirtual 59, 3) := by decide +kernel
theorem dX1_isHinge_25 : decode cX1_isHinge 25 = .ok (.iload_n 2, 1) := by decide +kernel
theorem dX1_isHinge_26 : decode cX1_isHinge 26 = .ok (.iconst (-1), 1) := by decide +kernel
theorem dX1_isHinge_27 : decode cX1_isHinge 27 = .ok (.ixor, 1) := by decide +kernel
theorem dX1_isHinge_28 : decode cX1_isHinge 28 = .ok (.iand, 1) := by decide +kernel
theorem dX1_isHinge_29 : decode cX1_isHinge 29 = .ok (.istore_n 3, 1) := by decide +kernel
theorem dX1_isHinge_30 : decode cX1_isHinge 30 = .ok (.iconst 0, 1) := by decide +kernel
theorem dX1_isHinge_31 : decode cX1_isHinge 31 = .ok (.istore 4, 2) := by decide +kernel
theorem dX1_isHinge_33 : decode cX1_isHinge 33 = .ok (.iload 4, 2) := by decide +kernel
theorem dX1_isHinge_35 : decode cX1_isHinge 35 = .ok (.aload_n 0, 1) := by decide +kernel
theorem dX1_isHinge_36 : decode cX1_isHinge 36 = .ok (.getfield 28, 3) := by decide +kernel
theorem dX1_isHinge_39 : decode cX1_isHinge 39 = .ok (.if_icmp .ge 35, 3) := by decide +kernel
theorem dX1_isHinge_42 : decode cX1_isHinge 42 = .ok (.iload_n 3, 1) := by decide +kernel
theorem dX1_isHinge_43 : decode cX1_isHinge 43 = .ok (.iload 4, 2) := by decide +kernel
theorem dX1_isHinge_45 : decode cX1_isHinge 45 = .ok (.invokestatic 52, 3) := by decide +kernel
theorem dX1_isHinge_48 : decode cX1_isHinge 48 = .ok (.ifCond .eq 20, 3) := by decide +kernel
theorem dX1_isHinge_51 : decode cX1_isHinge 51 = .ok (.aload_n 0, 1) := by decide +kernel
theorem dX1_isHinge_52 : decode cX1_isHinge 52 = .ok (.iload 4, 2) := by decide +kernel
theorem dX1_isHinge_54 : decode cX1_isHinge 54 = .ok (.iload_n 2, 1) := by decide +kernel
theorem dX1_isHinge_55 : decode cX1_isHinge 55 = .ok (.invokevirtual 59, 3) := by decide +kernel
theorem dX1_isHinge_58 : decode cX1_isHinge 58 = .ok (.iload_n 3, 1) := by decide +kernel
theorem dX1_isHinge_59 : decode cX1_isHinge 59 = .ok (.if_icmp .eq 7, 3) := by decide +kernel
theorem dX1_isHinge_62 : decode cX1_isHinge 62 = .ok (.iconst 1, 1) := by decide +kernel
theorem dX1_isHinge_63 : decode cX1_isHinge 63 = .ok (.goto 4, 3) := by decide +kernel
theorem dX1_isHinge_66 : decode cX1_isHinge 66 = .ok (.iconst 0, 1) := by decide +kernel
theorem dX1_isHinge_67 : decode cX1_isHinge 67 = .ok (.ireturn, 1) := by decide +kernel
theorem dX1_isHinge_68 : decode cX1_isHinge 68 = .ok (.iinc 4 1, 3) := by decide +kernel
theorem dX1_isHinge_71 : decode cX1_isHinge 71 = .ok (.goto (-38), 3) := by decide +kernel
theorem dX1_isHinge_74 : decode cX1_isHinge 74 = .ok (.iconst 0, 1) := by decide +kernel
theorem dX1_isHinge_75 : decode cX1_isHinge 75 = .ok (.ireturn, 1) := by decide +kernel
