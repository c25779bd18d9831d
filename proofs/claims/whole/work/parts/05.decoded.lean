theorem dX3_regret_0 : decode cX3_regret 0 = .ok (.aload_n 0, 1) := by decide +kernel
theorem dX3_regret_1 : decode cX3_regret 1 = .ok (.invokevirtual 119, 3) := by decide +kernel
theorem dX3_regret_4 : decode cX3_regret 4 = .ok (.ifCond .eq 13, 3) := by decide +kernel
theorem dX3_regret_7 : decode cX3_regret 7 = .ok (.aload_n 0, 1) := by decide +kernel
theorem dX3_regret_8 : decode cX3_regret 8 = .ok (.getfield 19, 3) := by decide +kernel
theorem dX3_regret_11 : decode cX3_regret 11 = .ok (.invokevirtual 70, 3) := by decide +kernel
theorem dX3_regret_14 : decode cX3_regret 14 = .ok (.goto 4, 3) := by decide +kernel
theorem dX3_regret_17 : decode cX3_regret 17 = .ok (.iconst (-1), 1) := by decide +kernel
theorem dX3_regret_18 : decode cX3_regret 18 = .ok (.ireturn, 1) := by decide +kernel
theorem dX3_regretPart_0 : decode cX3_regretPart 0 = .ok (.aload_n 0, 1) := by decide +kernel
theorem dX3_regretPart_1 : decode cX3_regretPart 1 = .ok (.getfield 10, 3) := by decide +kernel
theorem dX3_regretPart_4 : decode cX3_regretPart 4 = .ok (.iload_n 1, 1) := by decide +kernel
theorem dX3_regretPart_5 : decode cX3_regretPart 5 = .ok (.invokevirtual 53, 3) := by decide +kernel
theorem dX3_regretPart_8 : decode cX3_regretPart 8 = .ok (.ifCond .eq 21, 3) := by decide +kernel
theorem dX3_regretPart_11 : decode cX3_regretPart 11 = .ok (.aload_n 0, 1) := by decide +kernel
theorem dX3_regretPart_12 : decode cX3_regretPart 12 = .ok (.invokevirtual 119, 3) := by decide +kernel
theorem dX3_regretPart_15 : decode cX3_regretPart 15 = .ok (.ifCond .eq 14, 3) := by decide +kernel
theorem dX3_regretPart_18 : decode cX3_regretPart 18 = .ok (.aload_n 0, 1) := by decide +kernel
theorem dX3_regretPart_19 : decode cX3_regretPart 19 = .ok (.getfield 19, 3) := by decide +kernel
theorem dX3_regretPart_22 : decode cX3_regretPart 22 = .ok (.iload_n 1, 1) := by decide +kernel
theorem dX3_regretPart_23 : decode cX3_regretPart 23 = .ok (.invokevirtual 74, 3) := by decide +kernel
theorem dX3_regretPart_26 : decode cX3_regretPart 26 = .ok (.goto 4, 3) := by decide +kernel
theorem dX3_regretPart_29 : decode cX3_regretPart 29 = .ok (.iconst (-1), 1) := by decide +kernel
theorem dX3_regretPart_30 : decode cX3_regretPart 30 = .ok (.ireturn, 1) := by decide +kernel
theorem dX3_bar_0 : decode cX3_bar 0 = .ok (.aload_n 0, 1) := by decide +kernel
theorem dX3_bar_1 : decode cX3_bar 1 = .ok (.getfield 10, 3) := by decide +kernel
theorem dX3_bar_4 : decode cX3_bar 4 = .ok (.iload_n 1, 1) := by decide +kernel
theorem dX3_bar_5 : decode cX3_bar 5 = .ok (.iload_n 2, 1) := by decide +kernel
theorem dX3_bar_6 : decode cX3_bar 6 = .ok (.invokevirtual 122, 3) := by decide +kernel
theorem dX3_bar_9 : decode cX3_bar 9 = .ok (.istore_n 3, 1) := by decide +kernel
theorem dX3_bar_10 : decode cX3_bar 10 = .ok (.iload_n 3, 1) := by decide +kernel
theorem dX3_bar_11 : decode cX3_bar 11 = .ok (.iconst (-1), 1) := by decide +kernel
theorem dX3_bar_12 : decode cX3_bar 12 = .ok (.if_icmp .ne 7, 3) := by decide +kernel
theorem dX3_bar_15 : decode cX3_bar 15 = .ok (.iconst (-1), 1) := by decide +kernel
theorem dX3_bar_16 : decode cX3_bar 16 = .ok (.goto 11, 3) := by decide +kernel
theorem dX3_bar_19 : decode cX3_bar 19 = .ok (.aload_n 0, 1) := by decide +kernel
theorem dX3_bar_20 : decode cX3_bar 20 = .ok (.getfield 10, 3) := by decide +kernel
theorem dX3_bar_23 : decode cX3_bar 23 = .ok (.iload_n 3, 1) := by decide +kernel
theorem dX3_bar_24 : decode cX3_bar 24 = .ok (.invokevirtual 125, 3) := by decide +kernel
theorem dX3_bar_27 : decode cX3_bar 27 = .ok (.ireturn, 1) := by decide +kernel
theorem dX3_bars_0 : decode cX3_bars 0 = .ok (.aload_n 0, 1) := by decide +kernel
theorem dX3_bars_1 : decode cX3_bars 1 = .ok (.getfield 10, 3) := by decide +kernel
theorem dX3_bars_4 : decode cX3_bars 4 = .ok (.iload_n 1, 1) := by decide +kernel
theorem dX3_bars_5 : decode cX3_bars 5 = .ok (.iload_n 2, 1) := by decide +kernel
theorem dX3_bars_6 : decode cX3_bars 6 = .ok (.invokevirtual 122, 3) := by decide +kernel
theorem dX3_bars_9 : decode cX3_bars 9 = .ok (.ireturn, 1) := by decide +kernel
theorem dX3_bridge_0 : decode cX3_bridge 0 = .ok (.aload_n 0, 1) := by decide +kernel
theorem dX3_bridge_1 : decode cX3_bridge 1 = .ok (.getfield 10, 3) := by decide +kernel
theorem dX3_bridge_4 : decode cX3_bridge 4 = .ok (.iload_n 1, 1) := by decide +kernel
theorem dX3_bridge_5 : decode cX3_bridge 5 = .ok (.invokevirtual 128, 3) := by decide +kernel
theorem dX3_bridge_8 : decode cX3_bridge 8 = .ok (.ireturn, 1) := by decide +kernel
theorem dX3_hinge_0 : decode cX3_hinge 0 = .ok (.aload_n 0, 1) := by decide +kernel
theorem dX3_hinge_1 : decode cX3_hinge 1 = .ok (.getfield 10, 3) := by decide +kernel
theorem dX3_hinge_4 : decode cX3_hinge 4 = .ok (.iload_n 1, 1) := by decide +kernel
theorem dX3_hinge_5 : decode cX3_hinge 5 = .ok (.invokevirtual 131, 3) := by decide +kernel
theorem dX3_hinge_8 : decode cX3_hinge 8 = .ok (.ireturn, 1) := by decide +kernel
theorem dX3_count_0 : decode cX3_count 0 = .ok (.iload_n 1, 1) := by decide +kernel
theorem dX3_count_1 : decode cX3_count 1 = .ok (.tableswitch 72 0 4 #[35, 43, 51, 59, 64], 35) := by decide +kernel
theorem dX3_count_36 : decode cX3_count 36 = .ok (.aload_n 0, 1) := by decide +kernel
theorem dX3_count_37 : decode cX3_count 37 = .ok (.getfield 10, 3) := by decide +kernel
theorem dX3_count_40 : decode cX3_count 40 = .ok (.getfield 134, 3) := by decide +kernel
theorem dX3_count_43 : decode cX3_count 43 = .ok (.ireturn, 1) := by decide +kernel
theorem dX3_count_44 : decode cX3_count 44 = .ok (.aload_n 0, 1) := by decide +kernel
theorem dX3_count_45 : decode cX3_count 45 = .ok (.getfield 10, 3) := by decide +kernel
theorem dX3_count_48 : decode cX3_count 48 = .ok (.invokevirtual 137, 3) := by decide +kernel
theorem dX3_count_51 : decode cX3_count 51 = .ok (.ireturn, 1) := by decide +kernel
theorem dX3_count_52 : decode cX3_count 52 = .ok (.aload_n 0, 1) := by decide +kernel
theorem dX3_count_53 : decode cX3_count 53 = .ok (.getfield 38, 3) := by decide +kernel
theorem dX3_count_56 : decode cX3_count 56 = .ok (.invokestatic 140, 3) := by decide +kernel
theorem dX3_count_59 : decode cX3_count 59 = .ok (.ireturn, 1) := by decide +kernel
theorem dX3_count_60 : decode cX3_count 60 = .ok (.aload_n 0, 1) := by decide +kernel
theorem dX3_count_61 : decode cX3_count 61 = .ok (.getfield 34, 3) := by decide +kernel
theorem dX3_count_64 : decode cX3_count 64 = .ok (.ireturn, 1) := by decide +kernel
theorem dX3_count_65 : decode cX3_count 65 = .ok (.aload_n 0, 1) := by decide +kernel
theorem dX3_count_66 : decode cX3_count 66 = .ok (.getfield 10, 3) := by decide +kernel
theorem dX3_count_69 : decode cX3_count 69 = .ok (.invokevirtual 143, 3) := by decide +kernel
theorem dX3_count_72 : decode cX3_count 72 = .ok (.ireturn, 1) := by decide +kernel
theorem dX3_count_73 : decode cX3_count 73 = .ok (.iconst (-1), 1) := by decide +kernel
theorem dX3_count_74 : decode cX3_count 74 = .ok (.ireturn, 1) := by decide +kernel
theorem dX3_findCut_0 : decode cX3_findCut 0 = .ok (.aload_n 0, 1) := by decide +kernel
theorem dX3_findCut_1 : decode cX3_findCut 1 = .ok (.getfield 10, 3) := by decide +kernel
theorem dX3_findCut_4 : decode cX3_findCut 4 = .ok (.iload_n 1, 1) := by decide +kernel
theorem dX3_findCut_5 : decode cX3_findCut 5 = .ok (.iload_n 2, 1) := by decide +kernel
theorem dX3_findCut_6 : decode cX3_findCut 6 = .ok (.invokevirtual 60, 3) := by decide +kernel
theorem dX3_findCut_9 : decode cX3_findCut 9 = .ok (.ifCond .ne 5, 3) := by decide +kernel
theorem dX3_findCut_12 : decode cX3_findCut 12 = .ok (.iconst 0, 1) := by decide +kernel
theorem dX3_findCut_13 : decode cX3_findCut 13 = .ok (.ireturn, 1) := by decide +kernel
theorem dX3_findCut_14 : decode cX3_findCut 14 = .ok (.aload_n 0, 1) := by decide +kernel
theorem dX3_findCut_15 : decode cX3_findCut 15 = .ok (.invokevirtual 146, 3) := by decide +kernel
theorem dX3_findCut_18 : decode cX3_findCut 18 = .ok (.aload_n 0, 1) := by decide +kernel
theorem dX3_findCut_19 : decode cX3_findCut 19 = .ok (.getfield 19, 3) := by decide +kernel
theorem dX3_findCut_22 : decode cX3_findCut 22 = .ok (.iload_n 1, 1) := by decide +kernel
theorem dX3_findCut_23 : decode cX3_findCut 23 = .ok (.iload_n 2, 1) := by decide +kernel
theorem dX3_findCut_24 : decode cX3_findCut 24 = .ok (.invokevirtual 102, 3) := by decide +kernel
theorem dX3_findCut_27 : decode cX3_findCut 27 = .ok (.aload_n 0, 1) := by decide +kernel
theorem dX3_findCut_28 : decode cX3_findCut 28 = .ok (.getfield 19, 3) := by decide +kernel
theorem dX3_findCut_31 : decode cX3_findCut 31 = .ok (.invokevirtual 99, 3) := by decide +kernel
theorem dX3_findCut_34 : decode cX3_findCut 34 = .ok (.iconst 1, 1) := by decide +kernel
theorem dX3_findCut_35 : decode cX3_findCut 35 = .ok (.ireturn, 1) := by decide +kernel
theorem dX3_findTerminals_0 : decode cX3_findTerminals 0 = .ok (.aload_n 0, 1) := by decide +kernel
theorem dX3_findTerminals_1 : decode cX3_findTerminals 1 = .ok (.getfield 10, 3) := by decide +kernel
theorem dX3_findTerminals_4 : decode cX3_findTerminals 4 = .ok (.getfield 134, 3) := by decide +kernel
theorem dX3_findTerminals_7 : decode cX3_findTerminals 7 = .ok (.ifCond .ne 5, 3) := by decide +kernel
theorem dX3_findTerminals_10 : decode cX3_findTerminals 10 = .ok (.iconst 0, 1) := by decide +kernel
theorem dX3_findTerminals_11 : decode cX3_findTerminals 11 = .ok (.ireturn, 1) := by decide +kernel
theorem dX3_findTerminals_12 : decode cX3_findTerminals 12 = .ok (.aload_n 0, 1) := by decide +kernel
theorem dX3_findTerminals_13 : decode cX3_findTerminals 13 = .ok (.invokevirtual 146, 3) := by decide +kernel
theorem dX3_findTerminals_16 : decode cX3_findTerminals 16 = .ok (.iconst 0, 1) := by decide +kernel
theorem dX3_findTerminals_17 : decode cX3_findTerminals 17 = .ok (.istore_n 1, 1) := by decide +kernel
theorem dX3_findTerminals_18 : decode cX3_findTerminals 18 = .ok (.iload_n 1, 1) := by decide +kernel
theorem dX3_findTerminals_19 : decode cX3_findTerminals 19 = .ok (.aload_n 0, 1) := by decide +kernel
theorem dX3_findTerminals_20 : decode cX3_findTerminals 20 = .ok (.getfield 10, 3) := by decide +kernel
theorem dX3_findTerminals_23 : decode cX3_findTerminals 23 = .ok (.getfield 134, 3) := by decide +kernel
theorem dX3_findTerminals_26 : decode cX3_findTerminals 26 = .ok (.if_icmp .ge 38, 3) := by decide +kernel
theorem dX3_findTerminals_29 : decode cX3_findTerminals 29 = .ok (.aload_n 0, 1) := by decide +kernel
theorem dX3_findTerminals_30 : decode cX3_findTerminals 30 = .ok (.getfield 38, 3) := by decide +kernel
theorem dX3_findTerminals_33 : decode cX3_findTerminals 33 = .ok (.iload_n 1, 1) := by decide +kernel
theorem dX3_findTerminals_34 : decode cX3_findTerminals 34 = .ok (.invokestatic 56, 3) := by decide +kernel
theorem dX3_findTerminals_37 : decode cX3_findTerminals 37 = .ok (.ifCond .eq 21, 3) := by decide +kernel
theorem dX3_findTerminals_40 : decode cX3_findTerminals 40 = .ok (.aload_n 0, 1) := by decide +kernel
theorem dX3_findTerminals_41 : decode cX3_findTerminals 41 = .ok (.getfield 19, 3) := by decide +kernel
theorem dX3_findTerminals_44 : decode cX3_findTerminals 44 = .ok (.iload_n 1, 1) := by decide +kernel
theorem dX3_findTerminals_45 : decode cX3_findTerminals 45 = .ok (.aload_n 0, 1) := by decide +kernel
theorem dX3_findTerminals_46 : decode cX3_findTerminals 46 = .ok (.getfield 38, 3) := by decide +kernel
theorem dX3_findTerminals_49 : decode cX3_findTerminals 49 = .ok (.iconst 1, 1) := by decide +kernel
theorem dX3_findTerminals_50 : decode cX3_findTerminals 50 = .ok (.iload_n 1, 1) := by decide +kernel
theorem dX3_findTerminals_51 : decode cX3_findTerminals 51 = .ok (.ishl, 1) := by decide +kernel
theorem dX3_findTerminals_52 : decode cX3_findTerminals 52 = .ok (.iconst (-1), 1) := by decide +kernel
theorem dX3_findTerminals_53 : decode cX3_findTerminals 53 = .ok (.ixor, 1) := by decide +kernel
theorem dX3_findTerminals_54 : decode cX3_findTerminals 54 = .ok (.iand, 1) := by decide +kernel
theorem dX3_findTerminals_55 : decode cX3_findTerminals 55 = .ok (.invokevirtual 149, 3) := by decide +kernel
theorem dX3_findTerminals_58 : decode cX3_findTerminals 58 = .ok (.iinc 1 1, 3) := by decide +kernel
theorem dX3_findTerminals_61 : decode cX3_findTerminals 61 = .ok (.goto (-43), 3) := by decide +kernel
theorem dX3_findTerminals_64 : decode cX3_findTerminals 64 = .ok (.aload_n 0, 1) := by decide +kernel
theorem dX3_findTerminals_65 : decode cX3_findTerminals 65 = .ok (.getfield 19, 3) := by decide +kernel
theorem dX3_findTerminals_68 : decode cX3_findTerminals 68 = .ok (.invokevirtual 99, 3) := by decide +kernel
theorem dX3_findTerminals_71 : decode cX3_findTerminals 71 = .ok (.iconst 1, 1) := by decide +kernel
theorem dX3_findTerminals_72 : decode cX3_findTerminals 72 = .ok (.ireturn, 1) := by decide +kernel
theorem dX3_findApart_0 : decode cX3_findApart 0 = .ok (.aload_n 0, 1) := by decide +kernel
theorem dX3_findApart_1 : decode cX3_findApart 1 = .ok (.getfield 10, 3) := by decide +kernel
theorem dX3_findApart_4 : decode cX3_findApart 4 = .ok (.getfield 134, 3) := by decide +kernel
theorem dX3_findApart_7 : decode cX3_findApart 7 = .ok (.ifCond .ne 5, 3) := by decide +kernel
theorem dX3_findApart_10 : decode cX3_findApart 10 = .ok (.iconst 0, 1) := by decide +kernel
theorem dX3_findApart_11 : decode cX3_findApart 11 = .ok (.ireturn, 1) := by decide +kernel
theorem dX3_findApart_12 : decode cX3_findApart 12 = .ok (.aload_n 0, 1) := by decide +kernel
theorem dX3_findApart_13 : decode cX3_findApart 13 = .ok (.invokevirtual 93, 3) := by decide +kernel
theorem dX3_findApart_16 : decode cX3_findApart 16 = .ok (.aload_n 0, 1) := by decide +kernel
theorem dX3_findApart_17 : decode cX3_findApart 17 = .ok (.getfield 19, 3) := by decide +kernel
theorem dX3_findApart_20 : decode cX3_findApart 20 = .ok (.invokevirtual 99, 3) := by decide +kernel
theorem dX3_findApart_23 : decode cX3_findApart 23 = .ok (.iconst 1, 1) := by decide +kernel
theorem dX3_findApart_24 : decode cX3_findApart 24 = .ok (.ireturn, 1) := by decide +kernel
theorem dX3_findPieces_0 : decode cX3_findPieces 0 = .ok (.iload_n 1, 1) := by decide +kernel
theorem dX3_findPieces_1 : decode cX3_findPieces 1 = .ok (.iconst 1, 1) := by decide +kernel
theorem dX3_findPieces_2 : decode cX3_findPieces 2 = .ok (.if_icmp .lt 14, 3) := by decide +kernel
theorem dX3_findPieces_5 : decode cX3_findPieces 5 = .ok (.iload_n 1, 1) := by decide +kernel
theorem dX3_findPieces_6 : decode cX3_findPieces 6 = .ok (.aload_n 0, 1) := by decide +kernel
theorem dX3_findPieces_7 : decode cX3_findPieces 7 = .ok (.getfield 10, 3) := by decide +kernel
theorem dX3_findPieces_10 : decode cX3_findPieces 10 = .ok (.getfield 134, 3) := by decide +kernel
theorem dX3_findPieces_13 : decode cX3_findPieces 13 = .ok (.if_icmp .le 5, 3) := by decide +kernel
theorem dX3_findPieces_16 : decode cX3_findPieces 16 = .ok (.iconst 0, 1) := by decide +kernel
theorem dX3_findPieces_17 : decode cX3_findPieces 17 = .ok (.ireturn, 1) := by decide +kernel
theorem dX3_findPieces_18 : decode cX3_findPieces 18 = .ok (.aload_n 0, 1) := by decide +kernel
theorem dX3_findPieces_19 : decode cX3_findPieces 19 = .ok (.invokevirtual 146, 3) := by decide +kernel
theorem dX3_findPieces_22 : decode cX3_findPieces 22 = .ok (.aload_n 0, 1) := by decide +kernel
theorem dX3_findPieces_23 : decode cX3_findPieces 23 = .ok (.getfield 19, 3) := by decide +kernel
theorem dX3_findPieces_26 : decode cX3_findPieces 26 = .ok (.iload_n 1, 1) := by decide +kernel
theorem dX3_findPieces_27 : decode cX3_findPieces 27 = .ok (.invokevirtual 152, 3) := by decide +kernel
theorem dX3_findPieces_30 : decode cX3_findPieces 30 = .ok (.aload_n 0, 1) := by decide +kernel
theorem dX3_findPieces_31 : decode cX3_findPieces 31 = .ok (.getfield 19, 3) := by decide +kernel
theorem dX3_findPieces_34 : decode cX3_findPieces 34 = .ok (.invokevirtual 99, 3) := by decide +kernel
theorem dX3_findPieces_37 : decode cX3_findPieces 37 = .ok (.iconst 1, 1) := by decide +kernel
theorem dX3_findPieces_38 : decode cX3_findPieces 38 = .ok (.ireturn, 1) := by decide +kernel
theorem dX3_findRegret_0 : decode cX3_findRegret 0 = .ok (.aload_n 0, 1) := by decide +kernel
theorem dX3_findRegret_1 : decode cX3_findRegret 1 = .ok (.getfield 10, 3) := by decide +kernel
theorem dX3_findRegret_4 : decode cX3_findRegret 4 = .ok (.getfield 134, 3) := by decide +kernel
theorem dX3_findRegret_7 : decode cX3_findRegret 7 = .ok (.ifCond .ne 5, 3) := by decide +kernel
theorem dX3_findRegret_10 : decode cX3_findRegret 10 = .ok (.iconst 0, 1) := by decide +kernel
theorem dX3_findRegret_11 : decode cX3_findRegret 11 = .ok (.ireturn, 1) := by decide +kernel
theorem dX3_findRegret_12 : decode cX3_findRegret 12 = .ok (.aload_n 0, 1) := by decide +kernel
theorem dX3_findRegret_13 : decode cX3_findRegret 13 = .ok (.getfield 19, 3) := by decide +kernel
theorem dX3_findRegret_16 : decode cX3_findRegret 16 = .ok (.aload_n 0, 1) := by decide +kernel
theorem dX3_findRegret_17 : decode cX3_findRegret 17 = .ok (.getfield 10, 3) := by decide +kernel
theorem dX3_findRegret_20 : decode cX3_findRegret 20 = .ok (.getfield 134, 3) := by decide +kernel
theorem dX3_findRegret_23 : decode cX3_findRegret 23 = .ok (.invokevirtual 156, 3) := by decide +kernel
theorem dX3_findRegret_26 : decode cX3_findRegret 26 = .ok (.iconst 0, 1) := by decide +kernel
theorem dX3_findRegret_27 : decode cX3_findRegret 27 = .ok (.istore_n 1, 1) := by decide +kernel
theorem dX3_findRegret_28 : decode cX3_findRegret 28 = .ok (.iload_n 1, 1) := by decide +kernel
theorem dX3_findRegret_29 : decode cX3_findRegret 29 = .ok (.aload_n 0, 1) := by decide +kernel
theorem dX3_findRegret_30 : decode cX3_findRegret 30 = .ok (.getfield 10, 3) := by decide +kernel
theorem dX3_findRegret_33 : decode cX3_findRegret 33 = .ok (.getfield 159, 3) := by decide +kernel
theorem dX3_findRegret_36 : decode cX3_findRegret 36 = .ok (.if_icmp .ge 84, 3) := by decide +kernel
theorem dX3_findRegret_39 : decode cX3_findRegret 39 = .ok (.aload_n 0, 1) := by decide +kernel
theorem dX3_findRegret_40 : decode cX3_findRegret 40 = .ok (.getfield 10, 3) := by decide +kernel
theorem dX3_findRegret_43 : decode cX3_findRegret 43 = .ok (.getfield 162, 3) := by decide +kernel
theorem dX3_findRegret_46 : decode cX3_findRegret 46 = .ok (.iload_n 1, 1) := by decide +kernel
theorem dX3_findRegret_47 : decode cX3_findRegret 47 = .ok (.baload, 1) := by decide +kernel
theorem dX3_findRegret_48 : decode cX3_findRegret 48 = .ok (.ifCond .ne 66, 3) := by decide +kernel
theorem dX3_findRegret_51 : decode cX3_findRegret 51 = .ok (.aload_n 0, 1) := by decide +kernel
theorem dX3_findRegret_52 : decode cX3_findRegret 52 = .ok (.getfield 10, 3) := by decide +kernel
theorem dX3_findRegret_55 : decode cX3_findRegret 55 = .ok (.getfield 166, 3) := by decide +kernel
theorem dX3_findRegret_58 : decode cX3_findRegret 58 = .ok (.iload_n 1, 1) := by decide +kernel
theorem dX3_findRegret_59 : decode cX3_findRegret 59 = .ok (.iaload, 1) := by decide +kernel
theorem dX3_findRegret_60 : decode cX3_findRegret 60 = .ok (.istore_n 2, 1) := by decide +kernel
theorem dX3_findRegret_61 : decode cX3_findRegret 61 = .ok (.aload_n 0, 1) := by decide +kernel
theorem dX3_findRegret_62 : decode cX3_findRegret 62 = .ok (.getfield 10, 3) := by decide +kernel
theorem dX3_findRegret_65 : decode cX3_findRegret 65 = .ok (.getfield 169, 3) := by decide +kernel
theorem dX3_findRegret_68 : decode cX3_findRegret 68 = .ok (.iload_n 1, 1) := by decide +kernel
theorem dX3_findRegret_69 : decode cX3_findRegret 69 = .ok (.baload, 1) := by decide +kernel
theorem dX3_findRegret_70 : decode cX3_findRegret 70 = .ok (.istore_n 3, 1) := by decide +kernel
theorem dX3_findRegret_71 : decode cX3_findRegret 71 = .ok (.aload_n 0, 1) := by decide +kernel
theorem dX3_findRegret_72 : decode cX3_findRegret 72 = .ok (.getfield 19, 3) := by decide +kernel
theorem dX3_findRegret_75 : decode cX3_findRegret 75 = .ok (.aload_n 0, 1) := by decide +kernel
theorem dX3_findRegret_76 : decode cX3_findRegret 76 = .ok (.getfield 10, 3) := by decide +kernel
theorem dX3_findRegret_79 : decode cX3_findRegret 79 = .ok (.getfield 87, 3) := by decide +kernel
theorem dX3_findRegret_82 : decode cX3_findRegret 82 = .ok (.iload_n 1, 1) := by decide +kernel
theorem dX3_findRegret_83 : decode cX3_findRegret 83 = .ok (.iaload, 1) := by decide +kernel
theorem dX3_findRegret_84 : decode cX3_findRegret 84 = .ok (.aload_n 0, 1) := by decide +kernel
theorem dX3_findRegret_85 : decode cX3_findRegret 85 = .ok (.getfield 10, 3) := by decide +kernel
theorem dX3_findRegret_88 : decode cX3_findRegret 88 = .ok (.getfield 90, 3) := by decide +kernel
theorem dX3_findRegret_91 : decode cX3_findRegret 91 = .ok (.iload_n 1, 1) := by decide +kernel
theorem dX3_findRegret_92 : decode cX3_findRegret 92 = .ok (.iaload, 1) := by decide +kernel
theorem dX3_findRegret_93 : decode cX3_findRegret 93 = .ok (.iload_n 3, 1) := by decide +kernel
theorem dX3_findRegret_94 : decode cX3_findRegret 94 = .ok (.ifCond .eq 7, 3) := by decide +kernel
theorem dX3_findRegret_97 : decode cX3_findRegret 97 = .ok (.iload_n 2, 1) := by decide +kernel
theorem dX3_findRegret_98 : decode cX3_findRegret 98 = .ok (.goto 4, 3) := by decide +kernel
theorem dX3_findRegret_101 : decode cX3_findRegret 101 = .ok (.iconst 0, 1) := by decide +kernel
theorem dX3_findRegret_102 : decode cX3_findRegret 102 = .ok (.iload_n 3, 1) := by decide +kernel
theorem dX3_findRegret_103 : decode cX3_findRegret 103 = .ok (.ifCond .eq 7, 3) := by decide +kernel
theorem dX3_findRegret_106 : decode cX3_findRegret 106 = .ok (.iconst 0, 1) := by decide +kernel
theorem dX3_findRegret_107 : decode cX3_findRegret 107 = .ok (.goto 4, 3) := by decide +kernel
theorem dX3_findRegret_110 : decode cX3_findRegret 110 = .ok (.iload_n 2, 1) := by decide +kernel
theorem dX3_findRegret_111 : decode cX3_findRegret 111 = .ok (.invokevirtual 172, 3) := by decide +kernel
theorem dX3_findRegret_114 : decode cX3_findRegret 114 = .ok (.iinc 1 1, 3) := by decide +kernel
theorem dX3_findRegret_117 : decode cX3_findRegret 117 = .ok (.goto (-89), 3) := by decide +kernel
theorem dX3_findRegret_120 : decode cX3_findRegret 120 = .ok (.aload_n 0, 1) := by decide +kernel
theorem dX3_findRegret_121 : decode cX3_findRegret 121 = .ok (.getfield 19, 3) := by decide +kernel
theorem dX3_findRegret_124 : decode cX3_findRegret 124 = .ok (.invokevirtual 99, 3) := by decide +kernel
theorem dX3_findRegret_127 : decode cX3_findRegret 127 = .ok (.iconst 1, 1) := by decide +kernel
theorem dX3_findRegret_128 : decode cX3_findRegret 128 = .ok (.ireturn, 1) := by decide +kernel
theorem dX3_prepareSums_0 : decode cX3_prepareSums 0 = .ok (.aload_n 0, 1) := by decide +kernel
theorem dX3_prepareSums_1 : decode cX3_prepareSums 1 = .ok (.getfield 19, 3) := by decide +kernel
theorem dX3_prepareSums_4 : decode cX3_prepareSums 4 = .ok (.aload_n 0, 1) := by decide +kernel
theorem dX3_prepareSums_5 : decode cX3_prepareSums 5 = .ok (.getfield 10, 3) := by decide +kernel
theorem dX3_prepareSums_8 : decode cX3_prepareSums 8 = .ok (.getfield 134, 3) := by decide +kernel
theorem dX3_prepareSums_11 : decode cX3_prepareSums 11 = .ok (.invokevirtual 156, 3) := by decide +kernel
theorem dX3_prepareSums_14 : decode cX3_prepareSums 14 = .ok (.iconst 0, 1) := by decide +kernel
theorem dX3_prepareSums_15 : decode cX3_prepareSums 15 = .ok (.istore_n 1, 1) := by decide +kernel
theorem dX3_prepareSums_16 : decode cX3_prepareSums 16 = .ok (.iload_n 1, 1) := by decide +kernel
theorem dX3_prepareSums_17 : decode cX3_prepareSums 17 = .ok (.aload_n 0, 1) := by decide +kernel
theorem dX3_prepareSums_18 : decode cX3_prepareSums 18 = .ok (.getfield 10, 3) := by decide +kernel
theorem dX3_prepareSums_21 : decode cX3_prepareSums 21 = .ok (.getfield 159, 3) := by decide +kernel
theorem dX3_prepareSums_24 : decode cX3_prepareSums 24 = .ok (.if_icmp .ge 56, 3) := by decide +kernel
theorem dX3_prepareSums_27 : decode cX3_prepareSums 27 = .ok (.aload_n 0, 1) := by decide +kernel
theorem dX3_prepareSums_28 : decode cX3_prepareSums 28 = .ok (.getfield 10, 3) := by decide +kernel
theorem dX3_prepareSums_31 : decode cX3_prepareSums 31 = .ok (.getfield 162, 3) := by decide +kernel
theorem dX3_prepareSums_34 : decode cX3_prepareSums 34 = .ok (.iload_n 1, 1) := by decide +kernel
theorem dX3_prepareSums_35 : decode cX3_prepareSums 35 = .ok (.baload, 1) := by decide +kernel
theorem dX3_prepareSums_36 : decode cX3_prepareSums 36 = .ok (.ifCond .ne 38, 3) := by decide +kernel
theorem dX3_prepareSums_39 : decode cX3_prepareSums 39 = .ok (.aload_n 0, 1) := by decide +kernel
theorem dX3_prepareSums_40 : decode cX3_prepareSums 40 = .ok (.getfield 19, 3) := by decide +kernel
theorem dX3_prepareSums_43 : decode cX3_prepareSums 43 = .ok (.aload_n 0, 1) := by decide +kernel
theorem dX3_prepareSums_44 : decode cX3_prepareSums 44 = .ok (.getfield 10, 3) := by decide +kernel
theorem dX3_prepareSums_47 : decode cX3_prepareSums 47 = .ok (.getfield 87, 3) := by decide +kernel
theorem dX3_prepareSums_50 : decode cX3_prepareSums 50 = .ok (.iload_n 1, 1) := by decide +kernel
theorem dX3_prepareSums_51 : decode cX3_prepareSums 51 = .ok (.iaload, 1) := by decide +kernel
theorem dX3_prepareSums_52 : decode cX3_prepareSums 52 = .ok (.aload_n 0, 1) := by decide +kernel
theorem dX3_prepareSums_53 : decode cX3_prepareSums 53 = .ok (.getfield 10, 3) := by decide +kernel
theorem dX3_prepareSums_56 : decode cX3_prepareSums 56 = .ok (.getfield 90, 3) := by decide +kernel
theorem dX3_prepareSums_59 : decode cX3_prepareSums 59 = .ok (.iload_n 1, 1) := by decide +kernel
theorem dX3_prepareSums_60 : decode cX3_prepareSums 60 = .ok (.iaload, 1) := by decide +kernel
theorem dX3_prepareSums_61 : decode cX3_prepareSums 61 = .ok (.aload_n 0, 1) := by decide +kernel
theorem dX3_prepareSums_62 : decode cX3_prepareSums 62 = .ok (.getfield 10, 3) := by decide +kernel
theorem dX3_prepareSums_65 : decode cX3_prepareSums 65 = .ok (.getfield 166, 3) := by decide +kernel
theorem dX3_prepareSums_68 : decode cX3_prepareSums 68 = .ok (.iload_n 1, 1) := by decide +kernel
theorem dX3_prepareSums_69 : decode cX3_prepareSums 69 = .ok (.iaload, 1) := by decide +kernel
theorem dX3_prepareSums_70 : decode cX3_prepareSums 70 = .ok (.iconst 0, 1) := by decide +kernel
theorem dX3_prepareSums_71 : decode cX3_prepareSums 71 = .ok (.invokevirtual 172, 3) := by decide +kernel
theorem dX3_prepareSums_74 : decode cX3_prepareSums 74 = .ok (.iinc 1 1, 3) := by decide +kernel
theorem dX3_prepareSums_77 : decode cX3_prepareSums 77 = .ok (.goto (-61), 3) := by decide +kernel
theorem dX3_prepareSums_80 : decode cX3_prepareSums 80 = .ok (.return_, 1) := by decide +kernel
theorem dX3_preparePairs_0 : decode cX3_preparePairs 0 = .ok (.aload_n 0, 1) := by decide +kernel
theorem dX3_preparePairs_1 : decode cX3_preparePairs 1 = .ok (.invokevirtual 146, 3) := by decide +kernel
theorem dX3_preparePairs_4 : decode cX3_preparePairs 4 = .ok (.iconst 0, 1) := by decide +kernel
theorem dX3_preparePairs_5 : decode cX3_preparePairs 5 = .ok (.istore_n 1, 1) := by decide +kernel
theorem dX3_preparePairs_6 : decode cX3_preparePairs 6 = .ok (.iload_n 1, 1) := by decide +kernel
theorem dX3_preparePairs_7 : decode cX3_preparePairs 7 = .ok (.aload_n 0, 1) := by decide +kernel
theorem dX3_preparePairs_8 : decode cX3_preparePairs 8 = .ok (.getfield 10, 3) := by decide +kernel
theorem dX3_preparePairs_11 : decode cX3_preparePairs 11 = .ok (.getfield 134, 3) := by decide +kernel
theorem dX3_preparePairs_14 : decode cX3_preparePairs 14 = .ok (.if_icmp .ge 23, 3) := by decide +kernel
theorem dX3_preparePairs_17 : decode cX3_preparePairs 17 = .ok (.aload_n 0, 1) := by decide +kernel
theorem dX3_preparePairs_18 : decode cX3_preparePairs 18 = .ok (.getfield 19, 3) := by decide +kernel
theorem dX3_preparePairs_21 : decode cX3_preparePairs 21 = .ok (.iload_n 1, 1) := by decide +kernel
theorem dX3_preparePairs_22 : decode cX3_preparePairs 22 = .ok (.aload_n 0, 1) := by decide +kernel
theorem dX3_preparePairs_23 : decode cX3_preparePairs 23 = .ok (.getfield 30, 3) := by decide +kernel
theorem dX3_preparePairs_26 : decode cX3_preparePairs 26 = .ok (.iload_n 1, 1) := by decide +kernel
theorem dX3_preparePairs_27 : decode cX3_preparePairs 27 = .ok (.iaload, 1) := by decide +kernel
theorem dX3_preparePairs_28 : decode cX3_preparePairs 28 = .ok (.invokevirtual 149, 3) := by decide +kernel
theorem dX3_preparePairs_31 : decode cX3_preparePairs 31 = .ok (.iinc 1 1, 3) := by decide +kernel
theorem dX3_preparePairs_34 : decode cX3_preparePairs 34 = .ok (.goto (-28), 3) := by decide +kernel
theorem dX3_preparePairs_37 : decode cX3_preparePairs 37 = .ok (.return_, 1) := by decide +kernel
theorem dX3_turnPair_0 : decode cX3_turnPair 0 = .ok (.aload_n 0, 1) := by decide +kernel
theorem dX3_turnPair_1 : decode cX3_turnPair 1 = .ok (.getfield 30, 3) := by decide +kernel
theorem dX3_turnPair_4 : decode cX3_turnPair 4 = .ok (.iload_n 1, 1) := by decide +kernel
theorem dX3_turnPair_5 : decode cX3_turnPair 5 = .ok (.dup2, 1) := by decide +kernel
theorem dX3_turnPair_6 : decode cX3_turnPair 6 = .ok (.iaload, 1) := by decide +kernel
theorem dX3_turnPair_7 : decode cX3_turnPair 7 = .ok (.iconst 1, 1) := by decide +kernel
theorem dX3_turnPair_8 : decode cX3_turnPair 8 = .ok (.iload_n 2, 1) := by decide +kernel
theorem dX3_turnPair_9 : decode cX3_turnPair 9 = .ok (.ishl, 1) := by decide +kernel
theorem dX3_turnPair_10 : decode cX3_turnPair 10 = .ok (.ixor, 1) := by decide +kernel
theorem dX3_turnPair_11 : decode cX3_turnPair 11 = .ok (.iastore, 1) := by decide +kernel
theorem dX3_turnPair_12 : decode cX3_turnPair 12 = .ok (.aload_n 0, 1) := by decide +kernel
theorem dX3_turnPair_13 : decode cX3_turnPair 13 = .ok (.getfield 30, 3) := by decide +kernel
theorem dX3_turnPair_16 : decode cX3_turnPair 16 = .ok (.iload_n 2, 1) := by decide +kernel
theorem dX3_turnPair_17 : decode cX3_turnPair 17 = .ok (.dup2, 1) := by decide +kernel
theorem dX3_turnPair_18 : decode cX3_turnPair 18 = .ok (.iaload, 1) := by decide +kernel
theorem dX3_turnPair_19 : decode cX3_turnPair 19 = .ok (.iconst 1, 1) := by decide +kernel
theorem dX3_turnPair_20 : decode cX3_turnPair 20 = .ok (.iload_n 1, 1) := by decide +kernel
theorem dX3_turnPair_21 : decode cX3_turnPair 21 = .ok (.ishl, 1) := by decide +kernel
theorem dX3_turnPair_22 : decode cX3_turnPair 22 = .ok (.ixor, 1) := by decide +kernel
theorem dX3_turnPair_23 : decode cX3_turnPair 23 = .ok (.iastore, 1) := by decide +kernel
theorem dX3_turnPair_24 : decode cX3_turnPair 24 = .ok (.return_, 1) := by decide +kernel
theorem dX3_holds_0 : decode cX3_holds 0 = .ok (.iload_n 0, 1) := by decide +kernel
theorem dX3_holds_1 : decode cX3_holds 1 = .ok (.iload_n 1, 1) := by decide +kernel
theorem dX3_holds_2 : decode cX3_holds 2 = .ok (.ishr, 1) := by decide +kernel
theorem dX3_holds_3 : decode cX3_holds 3 = .ok (.iconst 1, 1) := by decide +kernel
theorem dX3_holds_4 : decode cX3_holds 4 = .ok (.iand, 1) := by decide +kernel
theorem dX3_holds_5 : decode cX3_holds 5 = .ok (.ifCond .eq 7, 3) := by decide +kernel
theorem dX3_holds_8 : decode cX3_holds 8 = .ok (.iconst 1, 1) := by decide +kernel
theorem dX3_holds_9 : decode cX3_holds 9 = .ok (.goto 4, 3) := by decide +kernel
theorem dX3_holds_12 : decode cX3_holds 12 = .ok (.iconst 0, 1) := by decide +kernel
theorem dX3_holds_13 : decode cX3_holds 13 = .ok (.ireturn, 1) := by decide +kernel
theorem dX3_sizeOf_0 : decode cX3_sizeOf 0 = .ok (.iconst 0, 1) := by decide +kernel
theorem dX3_sizeOf_1 : decode cX3_sizeOf 1 = .ok (.istore_n 1, 1) := by decide +kernel
theorem dX3_sizeOf_2 : decode cX3_sizeOf 2 = .ok (.iconst 0, 1) := by decide +kernel
theorem dX3_sizeOf_3 : decode cX3_sizeOf 3 = .ok (.istore_n 2, 1) := by decide +kernel
theorem dX3_sizeOf_4 : decode cX3_sizeOf 4 = .ok (.iload_n 2, 1) := by decide +kernel
theorem dX3_sizeOf_5 : decode cX3_sizeOf 5 = .ok (.bipush 9, 2) := by decide +kernel
theorem dX3_sizeOf_7 : decode cX3_sizeOf 7 = .ok (.if_icmp .ge 20, 3) := by decide +kernel
theorem dX3_sizeOf_10 : decode cX3_sizeOf 10 = .ok (.iload_n 0, 1) := by decide +kernel
theorem dX3_sizeOf_11 : decode cX3_sizeOf 11 = .ok (.iload_n 2, 1) := by decide +kernel
theorem dX3_sizeOf_12 : decode cX3_sizeOf 12 = .ok (.invokestatic 56, 3) := by decide +kernel
theorem dX3_sizeOf_15 : decode cX3_sizeOf 15 = .ok (.ifCond .eq 6, 3) := by decide +kernel
theorem dX3_sizeOf_18 : decode cX3_sizeOf 18 = .ok (.iinc 1 1, 3) := by decide +kernel
theorem dX3_sizeOf_21 : decode cX3_sizeOf 21 = .ok (.iinc 2 1, 3) := by decide +kernel
theorem dX3_sizeOf_24 : decode cX3_sizeOf 24 = .ok (.goto (-20), 3) := by decide +kernel
theorem dX3_sizeOf_27 : decode cX3_sizeOf 27 = .ok (.iload_n 1, 1) := by decide +kernel
theorem dX3_sizeOf_28 : decode cX3_sizeOf 28 = .ok (.ireturn, 1) := by decide +kernel
theorem dX4_init_0 : decode cX4_init 0 = .ok (.aload_n 0, 1) := by decide +kernel
theorem dX4_init_1 : decode cX4_init 1 = .ok (.invokespecial 1, 3) := by decide +kernel
theorem dX4_init_4 : decode cX4_init 4 = .ok (.aload_n 0, 1) := by decide +kernel
theorem dX4_init_5 : decode cX4_init 5 = .ok (.bipush 9, 2) := by decide +kernel
theorem dX4_init_7 : decode cX4_init 7 = .ok (.newarray .int, 2) := by decide +kernel
theorem dX4_init_9 : decode cX4_init 9 = .ok (.putfield 9, 3) := by decide +kernel
theorem dX4_init_12 : decode cX4_init 12 = .ok (.aload_n 0, 1) := by decide +kernel
theorem dX4_init_13 : decode cX4_init 13 = .ok (.bipush 9, 2) := by decide +kernel
theorem dX4_init_15 : decode cX4_init 15 = .ok (.newarray .boolean, 2) := by decide +kernel
theorem dX4_init_17 : decode cX4_init 17 = .ok (.putfield 13, 3) := by decide +kernel
theorem dX4_init_20 : decode cX4_init 20 = .ok (.aload_n 0, 1) := by decide +kernel
theorem dX4_init_21 : decode cX4_init 21 = .ok (.bipush 24, 2) := by decide +kernel
theorem dX4_init_23 : decode cX4_init 23 = .ok (.newarray .int, 2) := by decide +kernel
theorem dX4_init_25 : decode cX4_init 25 = .ok (.putfield 17, 3) := by decide +kernel
theorem dX4_init_28 : decode cX4_init 28 = .ok (.aload_n 0, 1) := by decide +kernel
theorem dX4_init_29 : decode cX4_init 29 = .ok (.bipush 24, 2) := by decide +kernel
theorem dX4_init_31 : decode cX4_init 31 = .ok (.newarray .int, 2) := by decide +kernel
theorem dX4_init_33 : decode cX4_init 33 = .ok (.putfield 20, 3) := by decide +kernel
theorem dX4_init_36 : decode cX4_init 36 = .ok (.aload_n 0, 1) := by decide +kernel
theorem dX4_init_37 : decode cX4_init 37 = .ok (.bipush 24, 2) := by decide +kernel
theorem dX4_init_39 : decode cX4_init 39 = .ok (.newarray .int, 2) := by decide +kernel
theorem dX4_init_41 : decode cX4_init 41 = .ok (.putfield 23, 3) := by decide +kernel
theorem dX4_init_44 : decode cX4_init 44 = .ok (.aload_n 0, 1) := by decide +kernel
theorem dX4_init_45 : decode cX4_init 45 = .ok (.bipush 24, 2) := by decide +kernel
theorem dX4_init_47 : decode cX4_init 47 = .ok (.newarray .boolean, 2) := by decide +kernel
theorem dX4_init_49 : decode cX4_init 49 = .ok (.putfield 26, 3) := by decide +kernel
theorem dX4_init_52 : decode cX4_init 52 = .ok (.aload_n 0, 1) := by decide +kernel
theorem dX4_init_53 : decode cX4_init 53 = .ok (.bipush 24, 2) := by decide +kernel
theorem dX4_init_55 : decode cX4_init 55 = .ok (.newarray .boolean, 2) := by decide +kernel
theorem dX4_init_57 : decode cX4_init 57 = .ok (.putfield 29, 3) := by decide +kernel
theorem dX4_init_60 : decode cX4_init 60 = .ok (.aload_n 0, 1) := by decide +kernel
theorem dX4_init_61 : decode cX4_init 61 = .ok (.bipush 8, 2) := by decide +kernel
theorem dX4_init_63 : decode cX4_init 63 = .ok (.newarray .int, 2) := by decide +kernel
theorem dX4_init_65 : decode cX4_init 65 = .ok (.putfield 32, 3) := by decide +kernel
theorem dX4_init_68 : decode cX4_init 68 = .ok (.aload_n 0, 1) := by decide +kernel
theorem dX4_init_69 : decode cX4_init 69 = .ok (.bipush 8, 2) := by decide +kernel
theorem dX4_init_71 : decode cX4_init 71 = .ok (.newarray .int, 2) := by decide +kernel
theorem dX4_init_73 : decode cX4_init 73 = .ok (.putfield 35, 3) := by decide +kernel
theorem dX4_init_76 : decode cX4_init 76 = .ok (.aload_n 0, 1) := by decide +kernel
theorem dX4_init_77 : decode cX4_init 77 = .ok (.bipush 9, 2) := by decide +kernel
theorem dX4_init_79 : decode cX4_init 79 = .ok (.newarray .int, 2) := by decide +kernel
theorem dX4_init_81 : decode cX4_init 81 = .ok (.putfield 38, 3) := by decide +kernel
theorem dX4_init_84 : decode cX4_init 84 = .ok (.aload_n 0, 1) := by decide +kernel
theorem dX4_init_85 : decode cX4_init 85 = .ok (.bipush 9, 2) := by decide +kernel
theorem dX4_init_87 : decode cX4_init 87 = .ok (.newarray .int, 2) := by decide +kernel
theorem dX4_init_89 : decode cX4_init 89 = .ok (.putfield 41, 3) := by decide +kernel
theorem dX4_init_92 : decode cX4_init 92 = .ok (.aload_n 0, 1) := by decide +kernel
theorem dX4_init_93 : decode cX4_init 93 = .ok (.bipush 24, 2) := by decide +kernel
theorem dX4_init_95 : decode cX4_init 95 = .ok (.newarray .int, 2) := by decide +kernel
theorem dX4_init_97 : decode cX4_init 97 = .ok (.putfield 44, 3) := by decide +kernel
theorem dX4_init_100 : decode cX4_init 100 = .ok (.aload_n 0, 1) := by decide +kernel
theorem dX4_init_101 : decode cX4_init 101 = .ok (.bipush 9, 2) := by decide +kernel
theorem dX4_init_103 : decode cX4_init 103 = .ok (.newarray .boolean, 2) := by decide +kernel
theorem dX4_init_105 : decode cX4_init 105 = .ok (.putfield 47, 3) := by decide +kernel
theorem dX4_init_108 : decode cX4_init 108 = .ok (.return_, 1) := by decide +kernel
theorem dX4_in_0 : decode cX4_in 0 = .ok (.iload_n 0, 1) := by decide +kernel
theorem dX4_in_1 : decode cX4_in 1 = .ok (.iload_n 1, 1) := by decide +kernel
theorem dX4_in_2 : decode cX4_in 2 = .ok (.if_icmp .lt 12, 3) := by decide +kernel
theorem dX4_in_5 : decode cX4_in 5 = .ok (.iload_n 0, 1) := by decide +kernel
theorem dX4_in_6 : decode cX4_in 6 = .ok (.iload_n 2, 1) := by decide +kernel
theorem dX4_in_7 : decode cX4_in 7 = .ok (.if_icmp .gt 7, 3) := by decide +kernel
theorem dX4_in_10 : decode cX4_in 10 = .ok (.iconst 1, 1) := by decide +kernel
theorem dX4_in_11 : decode cX4_in 11 = .ok (.goto 4, 3) := by decide +kernel
theorem dX4_in_14 : decode cX4_in 14 = .ok (.iconst 0, 1) := by decide +kernel
theorem dX4_in_15 : decode cX4_in 15 = .ok (.ireturn, 1) := by decide +kernel
theorem dX4_isPost_0 : decode cX4_isPost 0 = .ok (.iload_n 1, 1) := by decide +kernel
theorem dX4_isPost_1 : decode cX4_isPost 1 = .ok (.iconst 0, 1) := by decide +kernel
theorem dX4_isPost_2 : decode cX4_isPost 2 = .ok (.aload_n 0, 1) := by decide +kernel
theorem dX4_isPost_3 : decode cX4_isPost 3 = .ok (.getfield 50, 3) := by decide +kernel
theorem dX4_isPost_6 : decode cX4_isPost 6 = .ok (.iconst 1, 1) := by decide +kernel
theorem dX4_isPost_7 : decode cX4_isPost 7 = .ok (.isub, 1) := by decide +kernel
theorem dX4_isPost_8 : decode cX4_isPost 8 = .ok (.invokestatic 54, 3) := by decide +kernel
theorem dX4_isPost_11 : decode cX4_isPost 11 = .ok (.ireturn, 1) := by decide +kernel
