theorem dX4_parts_0 : decode cX4_parts 0 = .ok (.iload_n 1, 1) := by decide +kernel
theorem dX4_parts_1 : decode cX4_parts 1 = .ok (.aload_n 0, 1) := by decide +kernel
theorem dX4_parts_2 : decode cX4_parts 2 = .ok (.getfield 50, 3) := by decide +kernel
theorem dX4_parts_5 : decode cX4_parts 5 = .ok (.if_icmp .ne 9, 3) := by decide +kernel
theorem dX4_parts_8 : decode cX4_parts 8 = .ok (.aload_n 0, 1) := by decide +kernel
theorem dX4_parts_9 : decode cX4_parts 9 = .ok (.iload_n 2, 1) := by decide +kernel
theorem dX4_parts_10 : decode cX4_parts 10 = .ok (.invokevirtual 103, 3) := by decide +kernel
theorem dX4_parts_13 : decode cX4_parts 13 = .ok (.return_, 1) := by decide +kernel
theorem dX4_parts_14 : decode cX4_parts 14 = .ok (.iconst 0, 1) := by decide +kernel
theorem dX4_parts_15 : decode cX4_parts 15 = .ok (.istore_n 3, 1) := by decide +kernel
theorem dX4_parts_16 : decode cX4_parts 16 = .ok (.iload_n 3, 1) := by decide +kernel
theorem dX4_parts_17 : decode cX4_parts 17 = .ok (.iload_n 2, 1) := by decide +kernel
theorem dX4_parts_18 : decode cX4_parts 18 = .ok (.if_icmp .gt 35, 3) := by decide +kernel
theorem dX4_parts_21 : decode cX4_parts 21 = .ok (.aload_n 0, 1) := by decide +kernel
theorem dX4_parts_22 : decode cX4_parts 22 = .ok (.getfield 38, 3) := by decide +kernel
theorem dX4_parts_25 : decode cX4_parts 25 = .ok (.iload_n 1, 1) := by decide +kernel
theorem dX4_parts_26 : decode cX4_parts 26 = .ok (.iload_n 3, 1) := by decide +kernel
theorem dX4_parts_27 : decode cX4_parts 27 = .ok (.iastore, 1) := by decide +kernel
theorem dX4_parts_28 : decode cX4_parts 28 = .ok (.aload_n 0, 1) := by decide +kernel
theorem dX4_parts_29 : decode cX4_parts 29 = .ok (.iload_n 1, 1) := by decide +kernel
theorem dX4_parts_30 : decode cX4_parts 30 = .ok (.iconst 1, 1) := by decide +kernel
theorem dX4_parts_31 : decode cX4_parts 31 = .ok (.iadd, 1) := by decide +kernel
theorem dX4_parts_32 : decode cX4_parts 32 = .ok (.iload_n 3, 1) := by decide +kernel
theorem dX4_parts_33 : decode cX4_parts 33 = .ok (.iload_n 2, 1) := by decide +kernel
theorem dX4_parts_34 : decode cX4_parts 34 = .ok (.if_icmp .ne 9, 3) := by decide +kernel
theorem dX4_parts_37 : decode cX4_parts 37 = .ok (.iload_n 2, 1) := by decide +kernel
theorem dX4_parts_38 : decode cX4_parts 38 = .ok (.iconst 1, 1) := by decide +kernel
theorem dX4_parts_39 : decode cX4_parts 39 = .ok (.iadd, 1) := by decide +kernel
theorem dX4_parts_40 : decode cX4_parts 40 = .ok (.goto 4, 3) := by decide +kernel
theorem dX4_parts_43 : decode cX4_parts 43 = .ok (.iload_n 2, 1) := by decide +kernel
theorem dX4_parts_44 : decode cX4_parts 44 = .ok (.invokevirtual 107, 3) := by decide +kernel
theorem dX4_parts_47 : decode cX4_parts 47 = .ok (.iinc 3 1, 3) := by decide +kernel
theorem dX4_parts_50 : decode cX4_parts 50 = .ok (.goto (-34), 3) := by decide +kernel
theorem dX4_parts_53 : decode cX4_parts 53 = .ok (.return_, 1) := by decide +kernel
theorem dX4_goesThrough_0 : decode cX4_goesThrough 0 = .ok (.aload_n 0, 1) := by decide +kernel
theorem dX4_goesThrough_1 : decode cX4_goesThrough 1 = .ok (.iload_n 1, 1) := by decide +kernel
theorem dX4_goesThrough_2 : decode cX4_goesThrough 2 = .ok (.putfield 75, 3) := by decide +kernel
theorem dX4_goesThrough_5 : decode cX4_goesThrough 5 = .ok (.aload_n 0, 1) := by decide +kernel
theorem dX4_goesThrough_6 : decode cX4_goesThrough 6 = .ok (.iload_n 2, 1) := by decide +kernel
theorem dX4_goesThrough_7 : decode cX4_goesThrough 7 = .ok (.putfield 100, 3) := by decide +kernel
theorem dX4_goesThrough_10 : decode cX4_goesThrough 10 = .ok (.aload_n 0, 1) := by decide +kernel
theorem dX4_goesThrough_11 : decode cX4_goesThrough 11 = .ok (.ldc 111, 2) := by decide +kernel
theorem dX4_goesThrough_13 : decode cX4_goesThrough 13 = .ok (.putfield 94, 3) := by decide +kernel
theorem dX4_goesThrough_16 : decode cX4_goesThrough 16 = .ok (.aload_n 0, 1) := by decide +kernel
theorem dX4_goesThrough_17 : decode cX4_goesThrough 17 = .ok (.iconst 0, 1) := by decide +kernel
theorem dX4_goesThrough_18 : decode cX4_goesThrough 18 = .ok (.putfield 97, 3) := by decide +kernel
theorem dX4_goesThrough_21 : decode cX4_goesThrough 21 = .ok (.aload_n 0, 1) := by decide +kernel
theorem dX4_goesThrough_22 : decode cX4_goesThrough 22 = .ok (.iconst 0, 1) := by decide +kernel
theorem dX4_goesThrough_23 : decode cX4_goesThrough 23 = .ok (.iconst 0, 1) := by decide +kernel
theorem dX4_goesThrough_24 : decode cX4_goesThrough 24 = .ok (.invokevirtual 107, 3) := by decide +kernel
theorem dX4_goesThrough_27 : decode cX4_goesThrough 27 = .ok (.return_, 1) := by decide +kernel
theorem dX4_canTwo_0 : decode cX4_canTwo 0 = .ok (.aload_n 0, 1) := by decide +kernel
theorem dX4_canTwo_1 : decode cX4_canTwo 1 = .ok (.iload_n 1, 1) := by decide +kernel
theorem dX4_canTwo_2 : decode cX4_canTwo 2 = .ok (.invokevirtual 61, 3) := by decide +kernel
theorem dX4_canTwo_5 : decode cX4_canTwo 5 = .ok (.ifCond .eq 16, 3) := by decide +kernel
theorem dX4_canTwo_8 : decode cX4_canTwo 8 = .ok (.aload_n 0, 1) := by decide +kernel
theorem dX4_canTwo_9 : decode cX4_canTwo 9 = .ok (.iload_n 2, 1) := by decide +kernel
theorem dX4_canTwo_10 : decode cX4_canTwo 10 = .ok (.invokevirtual 61, 3) := by decide +kernel
theorem dX4_canTwo_13 : decode cX4_canTwo 13 = .ok (.ifCond .eq 8, 3) := by decide +kernel
theorem dX4_canTwo_16 : decode cX4_canTwo 16 = .ok (.iload_n 1, 1) := by decide +kernel
theorem dX4_canTwo_17 : decode cX4_canTwo 17 = .ok (.iload_n 2, 1) := by decide +kernel
theorem dX4_canTwo_18 : decode cX4_canTwo 18 = .ok (.if_icmp .ne 5, 3) := by decide +kernel
theorem dX4_canTwo_21 : decode cX4_canTwo 21 = .ok (.iconst 0, 1) := by decide +kernel
theorem dX4_canTwo_22 : decode cX4_canTwo 22 = .ok (.ireturn, 1) := by decide +kernel
theorem dX4_canTwo_23 : decode cX4_canTwo 23 = .ok (.aload_n 0, 1) := by decide +kernel
theorem dX4_canTwo_24 : decode cX4_canTwo 24 = .ok (.iload_n 1, 1) := by decide +kernel
theorem dX4_canTwo_25 : decode cX4_canTwo 25 = .ok (.putfield 78, 3) := by decide +kernel
theorem dX4_canTwo_28 : decode cX4_canTwo 28 = .ok (.aload_n 0, 1) := by decide +kernel
theorem dX4_canTwo_29 : decode cX4_canTwo 29 = .ok (.iload_n 2, 1) := by decide +kernel
theorem dX4_canTwo_30 : decode cX4_canTwo 30 = .ok (.putfield 81, 3) := by decide +kernel
theorem dX4_canTwo_33 : decode cX4_canTwo 33 = .ok (.iconst 1, 1) := by decide +kernel
theorem dX4_canTwo_34 : decode cX4_canTwo 34 = .ok (.ireturn, 1) := by decide +kernel
theorem dX4_cut_0 : decode cX4_cut 0 = .ok (.aload_n 0, 1) := by decide +kernel
theorem dX4_cut_1 : decode cX4_cut 1 = .ok (.iload_n 1, 1) := by decide +kernel
theorem dX4_cut_2 : decode cX4_cut 2 = .ok (.iload_n 2, 1) := by decide +kernel
theorem dX4_cut_3 : decode cX4_cut 3 = .ok (.invokevirtual 112, 3) := by decide +kernel
theorem dX4_cut_6 : decode cX4_cut 6 = .ok (.ifCond .ne 5, 3) := by decide +kernel
theorem dX4_cut_9 : decode cX4_cut 9 = .ok (.iconst (-1), 1) := by decide +kernel
theorem dX4_cut_10 : decode cX4_cut 10 = .ok (.ireturn, 1) := by decide +kernel
theorem dX4_cut_11 : decode cX4_cut 11 = .ok (.aload_n 0, 1) := by decide +kernel
theorem dX4_cut_12 : decode cX4_cut 12 = .ok (.iconst 0, 1) := by decide +kernel
theorem dX4_cut_13 : decode cX4_cut 13 = .ok (.iconst 0, 1) := by decide +kernel
theorem dX4_cut_14 : decode cX4_cut 14 = .ok (.invokevirtual 116, 3) := by decide +kernel
theorem dX4_cut_17 : decode cX4_cut 17 = .ok (.aload_n 0, 1) := by decide +kernel
theorem dX4_cut_18 : decode cX4_cut 18 = .ok (.getfield 94, 3) := by decide +kernel
theorem dX4_cut_21 : decode cX4_cut 21 = .ok (.ireturn, 1) := by decide +kernel
theorem dX4_cutPart_0 : decode cX4_cutPart 0 = .ok (.aload_n 0, 1) := by decide +kernel
theorem dX4_cutPart_1 : decode cX4_cutPart 1 = .ok (.iload_n 1, 1) := by decide +kernel
theorem dX4_cutPart_2 : decode cX4_cutPart 2 = .ok (.iload_n 2, 1) := by decide +kernel
theorem dX4_cutPart_3 : decode cX4_cutPart 3 = .ok (.invokevirtual 112, 3) := by decide +kernel
theorem dX4_cutPart_6 : decode cX4_cutPart 6 = .ok (.ifCond .eq 11, 3) := by decide +kernel
theorem dX4_cutPart_9 : decode cX4_cutPart 9 = .ok (.aload_n 0, 1) := by decide +kernel
theorem dX4_cutPart_10 : decode cX4_cutPart 10 = .ok (.iload_n 3, 1) := by decide +kernel
theorem dX4_cutPart_11 : decode cX4_cutPart 11 = .ok (.invokevirtual 61, 3) := by decide +kernel
theorem dX4_cutPart_14 : decode cX4_cutPart 14 = .ok (.ifCond .ne 5, 3) := by decide +kernel
theorem dX4_cutPart_17 : decode cX4_cutPart 17 = .ok (.iconst (-1), 1) := by decide +kernel
theorem dX4_cutPart_18 : decode cX4_cutPart 18 = .ok (.ireturn, 1) := by decide +kernel
theorem dX4_cutPart_19 : decode cX4_cutPart 19 = .ok (.aload_n 0, 1) := by decide +kernel
theorem dX4_cutPart_20 : decode cX4_cutPart 20 = .ok (.iconst 0, 1) := by decide +kernel
theorem dX4_cutPart_21 : decode cX4_cutPart 21 = .ok (.iconst 0, 1) := by decide +kernel
theorem dX4_cutPart_22 : decode cX4_cutPart 22 = .ok (.invokevirtual 116, 3) := by decide +kernel
theorem dX4_cutPart_25 : decode cX4_cutPart 25 = .ok (.aload_n 0, 1) := by decide +kernel
theorem dX4_cutPart_26 : decode cX4_cutPart 26 = .ok (.getfield 41, 3) := by decide +kernel
theorem dX4_cutPart_29 : decode cX4_cutPart 29 = .ok (.iload_n 3, 1) := by decide +kernel
theorem dX4_cutPart_30 : decode cX4_cutPart 30 = .ok (.iaload, 1) := by decide +kernel
theorem dX4_cutPart_31 : decode cX4_cutPart 31 = .ok (.ireturn, 1) := by decide +kernel
theorem dX4_told_0 : decode cX4_told 0 = .ok (.aload_n 0, 1) := by decide +kernel
theorem dX4_told_1 : decode cX4_told 1 = .ok (.getfield 50, 3) := by decide +kernel
theorem dX4_told_4 : decode cX4_told 4 = .ok (.ifCond .ne 5, 3) := by decide +kernel
theorem dX4_told_7 : decode cX4_told 7 = .ok (.iconst (-1), 1) := by decide +kernel
theorem dX4_told_8 : decode cX4_told 8 = .ok (.ireturn, 1) := by decide +kernel
theorem dX4_told_9 : decode cX4_told 9 = .ok (.aload_n 0, 1) := by decide +kernel
theorem dX4_told_10 : decode cX4_told 10 = .ok (.iload_n 1, 1) := by decide +kernel
theorem dX4_told_11 : decode cX4_told 11 = .ok (.iconst 0, 1) := by decide +kernel
theorem dX4_told_12 : decode cX4_told 12 = .ok (.invokevirtual 116, 3) := by decide +kernel
theorem dX4_told_15 : decode cX4_told 15 = .ok (.aload_n 0, 1) := by decide +kernel
theorem dX4_told_16 : decode cX4_told 16 = .ok (.getfield 94, 3) := by decide +kernel
theorem dX4_told_19 : decode cX4_told 19 = .ok (.ireturn, 1) := by decide +kernel
theorem dX4_toldPart_0 : decode cX4_toldPart 0 = .ok (.aload_n 0, 1) := by decide +kernel
theorem dX4_toldPart_1 : decode cX4_toldPart 1 = .ok (.iload_n 2, 1) := by decide +kernel
theorem dX4_toldPart_2 : decode cX4_toldPart 2 = .ok (.invokevirtual 61, 3) := by decide +kernel
theorem dX4_toldPart_5 : decode cX4_toldPart 5 = .ok (.ifCond .ne 5, 3) := by decide +kernel
theorem dX4_toldPart_8 : decode cX4_toldPart 8 = .ok (.iconst (-1), 1) := by decide +kernel
theorem dX4_toldPart_9 : decode cX4_toldPart 9 = .ok (.ireturn, 1) := by decide +kernel
theorem dX4_toldPart_10 : decode cX4_toldPart 10 = .ok (.aload_n 0, 1) := by decide +kernel
theorem dX4_toldPart_11 : decode cX4_toldPart 11 = .ok (.iload_n 1, 1) := by decide +kernel
theorem dX4_toldPart_12 : decode cX4_toldPart 12 = .ok (.iconst 0, 1) := by decide +kernel
theorem dX4_toldPart_13 : decode cX4_toldPart 13 = .ok (.invokevirtual 116, 3) := by decide +kernel
theorem dX4_toldPart_16 : decode cX4_toldPart 16 = .ok (.aload_n 0, 1) := by decide +kernel
theorem dX4_toldPart_17 : decode cX4_toldPart 17 = .ok (.getfield 41, 3) := by decide +kernel
theorem dX4_toldPart_20 : decode cX4_toldPart 20 = .ok (.iload_n 2, 1) := by decide +kernel
theorem dX4_toldPart_21 : decode cX4_toldPart 21 = .ok (.iaload, 1) := by decide +kernel
theorem dX4_toldPart_22 : decode cX4_toldPart 22 = .ok (.ireturn, 1) := by decide +kernel
theorem dX4_terminals_0 : decode cX4_terminals 0 = .ok (.aload_n 0, 1) := by decide +kernel
theorem dX4_terminals_1 : decode cX4_terminals 1 = .ok (.iconst 1, 1) := by decide +kernel
theorem dX4_terminals_2 : decode cX4_terminals 2 = .ok (.invokevirtual 119, 3) := by decide +kernel
theorem dX4_terminals_5 : decode cX4_terminals 5 = .ok (.ireturn, 1) := by decide +kernel
theorem dX4_terminalPart_0 : decode cX4_terminalPart 0 = .ok (.aload_n 0, 1) := by decide +kernel
theorem dX4_terminalPart_1 : decode cX4_terminalPart 1 = .ok (.iconst 1, 1) := by decide +kernel
theorem dX4_terminalPart_2 : decode cX4_terminalPart 2 = .ok (.iload_n 1, 1) := by decide +kernel
theorem dX4_terminalPart_3 : decode cX4_terminalPart 3 = .ok (.invokevirtual 123, 3) := by decide +kernel
theorem dX4_terminalPart_6 : decode cX4_terminalPart 6 = .ok (.ireturn, 1) := by decide +kernel
theorem dX4_apart_0 : decode cX4_apart 0 = .ok (.aload_n 0, 1) := by decide +kernel
theorem dX4_apart_1 : decode cX4_apart 1 = .ok (.iconst 2, 1) := by decide +kernel
theorem dX4_apart_2 : decode cX4_apart 2 = .ok (.invokevirtual 119, 3) := by decide +kernel
theorem dX4_apart_5 : decode cX4_apart 5 = .ok (.ireturn, 1) := by decide +kernel
theorem dX4_apartPart_0 : decode cX4_apartPart 0 = .ok (.aload_n 0, 1) := by decide +kernel
theorem dX4_apartPart_1 : decode cX4_apartPart 1 = .ok (.iconst 2, 1) := by decide +kernel
theorem dX4_apartPart_2 : decode cX4_apartPart 2 = .ok (.iload_n 1, 1) := by decide +kernel
theorem dX4_apartPart_3 : decode cX4_apartPart 3 = .ok (.invokevirtual 123, 3) := by decide +kernel
theorem dX4_apartPart_6 : decode cX4_apartPart 6 = .ok (.ireturn, 1) := by decide +kernel
theorem dX4_sure_0 : decode cX4_sure 0 = .ok (.aload_n 0, 1) := by decide +kernel
theorem dX4_sure_1 : decode cX4_sure 1 = .ok (.iload_n 1, 1) := by decide +kernel
theorem dX4_sure_2 : decode cX4_sure 2 = .ok (.invokevirtual 65, 3) := by decide +kernel
theorem dX4_sure_5 : decode cX4_sure 5 = .ok (.ifCond .ne 5, 3) := by decide +kernel
theorem dX4_sure_8 : decode cX4_sure 8 = .ok (.iconst (-1), 1) := by decide +kernel
theorem dX4_sure_9 : decode cX4_sure 9 = .ok (.ireturn, 1) := by decide +kernel
theorem dX4_sure_10 : decode cX4_sure 10 = .ok (.aload_n 0, 1) := by decide +kernel
theorem dX4_sure_11 : decode cX4_sure 11 = .ok (.iconst 2, 1) := by decide +kernel
theorem dX4_sure_12 : decode cX4_sure 12 = .ok (.iconst 0, 1) := by decide +kernel
theorem dX4_sure_13 : decode cX4_sure 13 = .ok (.invokevirtual 116, 3) := by decide +kernel
theorem dX4_sure_16 : decode cX4_sure 16 = .ok (.aload_n 0, 1) := by decide +kernel
theorem dX4_sure_17 : decode cX4_sure 17 = .ok (.getfield 44, 3) := by decide +kernel
theorem dX4_sure_20 : decode cX4_sure 20 = .ok (.iload_n 1, 1) := by decide +kernel
theorem dX4_sure_21 : decode cX4_sure 21 = .ok (.iaload, 1) := by decide +kernel
theorem dX4_sure_22 : decode cX4_sure 22 = .ok (.aload_n 0, 1) := by decide +kernel
theorem dX4_sure_23 : decode cX4_sure 23 = .ok (.getfield 97, 3) := by decide +kernel
theorem dX4_sure_26 : decode cX4_sure 26 = .ok (.if_icmp .ne 7, 3) := by decide +kernel
theorem dX4_sure_29 : decode cX4_sure 29 = .ok (.iconst 2, 1) := by decide +kernel
theorem dX4_sure_30 : decode cX4_sure 30 = .ok (.goto 17, 3) := by decide +kernel
theorem dX4_sure_33 : decode cX4_sure 33 = .ok (.aload_n 0, 1) := by decide +kernel
theorem dX4_sure_34 : decode cX4_sure 34 = .ok (.getfield 44, 3) := by decide +kernel
theorem dX4_sure_37 : decode cX4_sure 37 = .ok (.iload_n 1, 1) := by decide +kernel
theorem dX4_sure_38 : decode cX4_sure 38 = .ok (.iaload, 1) := by decide +kernel
theorem dX4_sure_39 : decode cX4_sure 39 = .ok (.ifCond .le 7, 3) := by decide +kernel
theorem dX4_sure_42 : decode cX4_sure 42 = .ok (.iconst 1, 1) := by decide +kernel
theorem dX4_sure_43 : decode cX4_sure 43 = .ok (.goto 4, 3) := by decide +kernel
theorem dX4_sure_46 : decode cX4_sure 46 = .ok (.iconst 0, 1) := by decide +kernel
theorem dX4_sure_47 : decode cX4_sure 47 = .ok (.ireturn, 1) := by decide +kernel
theorem dX4_pieces_0 : decode cX4_pieces 0 = .ok (.iload_n 1, 1) := by decide +kernel
theorem dX4_pieces_1 : decode cX4_pieces 1 = .ok (.iconst 1, 1) := by decide +kernel
theorem dX4_pieces_2 : decode cX4_pieces 2 = .ok (.aload_n 0, 1) := by decide +kernel
theorem dX4_pieces_3 : decode cX4_pieces 3 = .ok (.getfield 50, 3) := by decide +kernel
theorem dX4_pieces_6 : decode cX4_pieces 6 = .ok (.invokestatic 54, 3) := by decide +kernel
theorem dX4_pieces_9 : decode cX4_pieces 9 = .ok (.ifCond .ne 5, 3) := by decide +kernel
theorem dX4_pieces_12 : decode cX4_pieces 12 = .ok (.iconst (-1), 1) := by decide +kernel
theorem dX4_pieces_13 : decode cX4_pieces 13 = .ok (.ireturn, 1) := by decide +kernel
theorem dX4_pieces_14 : decode cX4_pieces 14 = .ok (.aload_n 0, 1) := by decide +kernel
theorem dX4_pieces_15 : decode cX4_pieces 15 = .ok (.iload_n 1, 1) := by decide +kernel
theorem dX4_pieces_16 : decode cX4_pieces 16 = .ok (.putfield 84, 3) := by decide +kernel
theorem dX4_pieces_19 : decode cX4_pieces 19 = .ok (.aload_n 0, 1) := by decide +kernel
theorem dX4_pieces_20 : decode cX4_pieces 20 = .ok (.iconst 3, 1) := by decide +kernel
theorem dX4_pieces_21 : decode cX4_pieces 21 = .ok (.invokevirtual 119, 3) := by decide +kernel
theorem dX4_pieces_24 : decode cX4_pieces 24 = .ok (.ireturn, 1) := by decide +kernel
theorem dX4_piece_0 : decode cX4_piece 0 = .ok (.iload_n 1, 1) := by decide +kernel
theorem dX4_piece_1 : decode cX4_piece 1 = .ok (.iconst 1, 1) := by decide +kernel
theorem dX4_piece_2 : decode cX4_piece 2 = .ok (.aload_n 0, 1) := by decide +kernel
theorem dX4_piece_3 : decode cX4_piece 3 = .ok (.getfield 50, 3) := by decide +kernel
theorem dX4_piece_6 : decode cX4_piece 6 = .ok (.invokestatic 54, 3) := by decide +kernel
theorem dX4_piece_9 : decode cX4_piece 9 = .ok (.ifCond .ne 5, 3) := by decide +kernel
theorem dX4_piece_12 : decode cX4_piece 12 = .ok (.iconst (-1), 1) := by decide +kernel
theorem dX4_piece_13 : decode cX4_piece 13 = .ok (.ireturn, 1) := by decide +kernel
theorem dX4_piece_14 : decode cX4_piece 14 = .ok (.aload_n 0, 1) := by decide +kernel
theorem dX4_piece_15 : decode cX4_piece 15 = .ok (.iload_n 1, 1) := by decide +kernel
theorem dX4_piece_16 : decode cX4_piece 16 = .ok (.putfield 84, 3) := by decide +kernel
theorem dX4_piece_19 : decode cX4_piece 19 = .ok (.aload_n 0, 1) := by decide +kernel
theorem dX4_piece_20 : decode cX4_piece 20 = .ok (.iconst 3, 1) := by decide +kernel
theorem dX4_piece_21 : decode cX4_piece 21 = .ok (.iload_n 2, 1) := by decide +kernel
theorem dX4_piece_22 : decode cX4_piece 22 = .ok (.invokevirtual 123, 3) := by decide +kernel
theorem dX4_piece_25 : decode cX4_piece 25 = .ok (.ireturn, 1) := by decide +kernel
theorem dX4_wholes_0 : decode cX4_wholes 0 = .ok (.aload_n 0, 1) := by decide +kernel
theorem dX4_wholes_1 : decode cX4_wholes 1 = .ok (.getfield 50, 3) := by decide +kernel
theorem dX4_wholes_4 : decode cX4_wholes 4 = .ok (.iconst 2, 1) := by decide +kernel
theorem dX4_wholes_5 : decode cX4_wholes 5 = .ok (.if_icmp .ge 5, 3) := by decide +kernel
theorem dX4_wholes_8 : decode cX4_wholes 8 = .ok (.iconst 0, 1) := by decide +kernel
theorem dX4_wholes_9 : decode cX4_wholes 9 = .ok (.ireturn, 1) := by decide +kernel
theorem dX4_wholes_10 : decode cX4_wholes 10 = .ok (.aload_n 0, 1) := by decide +kernel
theorem dX4_wholes_11 : decode cX4_wholes 11 = .ok (.iconst 2, 1) := by decide +kernel
theorem dX4_wholes_12 : decode cX4_wholes 12 = .ok (.putfield 84, 3) := by decide +kernel
theorem dX4_wholes_15 : decode cX4_wholes 15 = .ok (.aload_n 0, 1) := by decide +kernel
theorem dX4_wholes_16 : decode cX4_wholes 16 = .ok (.iconst 3, 1) := by decide +kernel
theorem dX4_wholes_17 : decode cX4_wholes 17 = .ok (.iconst 0, 1) := by decide +kernel
theorem dX4_wholes_18 : decode cX4_wholes 18 = .ok (.invokevirtual 116, 3) := by decide +kernel
theorem dX4_wholes_21 : decode cX4_wholes 21 = .ok (.aload_n 0, 1) := by decide +kernel
theorem dX4_wholes_22 : decode cX4_wholes 22 = .ok (.getfield 97, 3) := by decide +kernel
theorem dX4_wholes_25 : decode cX4_wholes 25 = .ok (.ireturn, 1) := by decide +kernel
theorem dX4_whole_0 : decode cX4_whole 0 = .ok (.aload_n 0, 1) := by decide +kernel
theorem dX4_whole_1 : decode cX4_whole 1 = .ok (.getfield 50, 3) := by decide +kernel
theorem dX4_whole_4 : decode cX4_whole 4 = .ok (.iconst 2, 1) := by decide +kernel
theorem dX4_whole_5 : decode cX4_whole 5 = .ok (.if_icmp .lt 15, 3) := by decide +kernel
theorem dX4_whole_8 : decode cX4_whole 8 = .ok (.iload_n 1, 1) := by decide +kernel
theorem dX4_whole_9 : decode cX4_whole 9 = .ok (.ifCond .lt 11, 3) := by decide +kernel
theorem dX4_whole_12 : decode cX4_whole 12 = .ok (.aload_n 0, 1) := by decide +kernel
theorem dX4_whole_13 : decode cX4_whole 13 = .ok (.iload_n 2, 1) := by decide +kernel
theorem dX4_whole_14 : decode cX4_whole 14 = .ok (.invokevirtual 61, 3) := by decide +kernel
theorem dX4_whole_17 : decode cX4_whole 17 = .ok (.ifCond .ne 5, 3) := by decide +kernel
theorem dX4_whole_20 : decode cX4_whole 20 = .ok (.iconst (-1), 1) := by decide +kernel
theorem dX4_whole_21 : decode cX4_whole 21 = .ok (.ireturn, 1) := by decide +kernel
theorem dX4_whole_22 : decode cX4_whole 22 = .ok (.aload_n 0, 1) := by decide +kernel
theorem dX4_whole_23 : decode cX4_whole 23 = .ok (.iconst 2, 1) := by decide +kernel
theorem dX4_whole_24 : decode cX4_whole 24 = .ok (.putfield 84, 3) := by decide +kernel
theorem dX4_whole_27 : decode cX4_whole 27 = .ok (.aload_n 0, 1) := by decide +kernel
theorem dX4_whole_28 : decode cX4_whole 28 = .ok (.iconst 3, 1) := by decide +kernel
theorem dX4_whole_29 : decode cX4_whole 29 = .ok (.iload_n 1, 1) := by decide +kernel
theorem dX4_whole_30 : decode cX4_whole 30 = .ok (.invokevirtual 116, 3) := by decide +kernel
theorem dX4_whole_33 : decode cX4_whole 33 = .ok (.iload_n 1, 1) := by decide +kernel
theorem dX4_whole_34 : decode cX4_whole 34 = .ok (.aload_n 0, 1) := by decide +kernel
theorem dX4_whole_35 : decode cX4_whole 35 = .ok (.getfield 97, 3) := by decide +kernel
theorem dX4_whole_38 : decode cX4_whole 38 = .ok (.if_icmp .ge 12, 3) := by decide +kernel
theorem dX4_whole_41 : decode cX4_whole 41 = .ok (.aload_n 0, 1) := by decide +kernel
theorem dX4_whole_42 : decode cX4_whole 42 = .ok (.getfield 41, 3) := by decide +kernel
theorem dX4_whole_45 : decode cX4_whole 45 = .ok (.iload_n 2, 1) := by decide +kernel
theorem dX4_whole_46 : decode cX4_whole 46 = .ok (.iaload, 1) := by decide +kernel
theorem dX4_whole_47 : decode cX4_whole 47 = .ok (.goto 4, 3) := by decide +kernel
theorem dX4_whole_50 : decode cX4_whole 50 = .ok (.iconst (-1), 1) := by decide +kernel
theorem dX4_whole_51 : decode cX4_whole 51 = .ok (.ireturn, 1) := by decide +kernel
theorem dX4_regret_0 : decode cX4_regret 0 = .ok (.aload_n 0, 1) := by decide +kernel
theorem dX4_regret_1 : decode cX4_regret 1 = .ok (.iconst 4, 1) := by decide +kernel
theorem dX4_regret_2 : decode cX4_regret 2 = .ok (.invokevirtual 119, 3) := by decide +kernel
theorem dX4_regret_5 : decode cX4_regret 5 = .ok (.ireturn, 1) := by decide +kernel
theorem dX4_regretPart_0 : decode cX4_regretPart 0 = .ok (.aload_n 0, 1) := by decide +kernel
theorem dX4_regretPart_1 : decode cX4_regretPart 1 = .ok (.iconst 4, 1) := by decide +kernel
theorem dX4_regretPart_2 : decode cX4_regretPart 2 = .ok (.iload_n 1, 1) := by decide +kernel
theorem dX4_regretPart_3 : decode cX4_regretPart 3 = .ok (.invokevirtual 123, 3) := by decide +kernel
theorem dX4_regretPart_6 : decode cX4_regretPart 6 = .ok (.ireturn, 1) := by decide +kernel
theorem dX4_reaches_0 : decode cX4_reaches 0 = .ok (.iconst 0, 1) := by decide +kernel
theorem dX4_reaches_1 : decode cX4_reaches 1 = .ok (.istore 4, 2) := by decide +kernel
theorem dX4_reaches_3 : decode cX4_reaches 3 = .ok (.iload 4, 2) := by decide +kernel
theorem dX4_reaches_5 : decode cX4_reaches 5 = .ok (.aload_n 0, 1) := by decide +kernel
theorem dX4_reaches_6 : decode cX4_reaches 6 = .ok (.getfield 50, 3) := by decide +kernel
theorem dX4_reaches_9 : decode cX4_reaches 9 = .ok (.if_icmp .ge 27, 3) := by decide +kernel
theorem dX4_reaches_12 : decode cX4_reaches 12 = .ok (.aload_n 0, 1) := by decide +kernel
theorem dX4_reaches_13 : decode cX4_reaches 13 = .ok (.getfield 47, 3) := by decide +kernel
theorem dX4_reaches_16 : decode cX4_reaches 16 = .ok (.iload 4, 2) := by decide +kernel
theorem dX4_reaches_18 : decode cX4_reaches 18 = .ok (.iload 4, 2) := by decide +kernel
theorem dX4_reaches_20 : decode cX4_reaches 20 = .ok (.iload_n 1, 1) := by decide +kernel
theorem dX4_reaches_21 : decode cX4_reaches 21 = .ok (.if_icmp .ne 7, 3) := by decide +kernel
theorem dX4_reaches_24 : decode cX4_reaches 24 = .ok (.iconst 1, 1) := by decide +kernel
theorem dX4_reaches_25 : decode cX4_reaches 25 = .ok (.goto 4, 3) := by decide +kernel
theorem dX4_reaches_28 : decode cX4_reaches 28 = .ok (.iconst 0, 1) := by decide +kernel
theorem dX4_reaches_29 : decode cX4_reaches 29 = .ok (.bastore, 1) := by decide +kernel
theorem dX4_reaches_30 : decode cX4_reaches 30 = .ok (.iinc 4 1, 3) := by decide +kernel
theorem dX4_reaches_33 : decode cX4_reaches 33 = .ok (.goto (-30), 3) := by decide +kernel
theorem dX4_reaches_36 : decode cX4_reaches 36 = .ok (.iconst 1, 1) := by decide +kernel
theorem dX4_reaches_37 : decode cX4_reaches 37 = .ok (.istore 4, 2) := by decide +kernel
theorem dX4_reaches_39 : decode cX4_reaches 39 = .ok (.iload 4, 2) := by decide +kernel
theorem dX4_reaches_41 : decode cX4_reaches 41 = .ok (.ifCond .eq 132, 3) := by decide +kernel
theorem dX4_reaches_44 : decode cX4_reaches 44 = .ok (.iconst 0, 1) := by decide +kernel
theorem dX4_reaches_45 : decode cX4_reaches 45 = .ok (.istore 4, 2) := by decide +kernel
theorem dX4_reaches_47 : decode cX4_reaches 47 = .ok (.iconst 0, 1) := by decide +kernel
theorem dX4_reaches_48 : decode cX4_reaches 48 = .ok (.istore 5, 2) := by decide +kernel
theorem dX4_reaches_50 : decode cX4_reaches 50 = .ok (.iload 5, 2) := by decide +kernel
theorem dX4_reaches_52 : decode cX4_reaches 52 = .ok (.aload_n 0, 1) := by decide +kernel
theorem dX4_reaches_53 : decode cX4_reaches 53 = .ok (.getfield 58, 3) := by decide +kernel
theorem dX4_reaches_56 : decode cX4_reaches 56 = .ok (.if_icmp .ge 114, 3) := by decide +kernel
theorem dX4_reaches_59 : decode cX4_reaches 59 = .ok (.aload_n 0, 1) := by decide +kernel
theorem dX4_reaches_60 : decode cX4_reaches 60 = .ok (.getfield 29, 3) := by decide +kernel
theorem dX4_reaches_63 : decode cX4_reaches 63 = .ok (.iload 5, 2) := by decide +kernel
theorem dX4_reaches_65 : decode cX4_reaches 65 = .ok (.baload, 1) := by decide +kernel
theorem dX4_reaches_66 : decode cX4_reaches 66 = .ok (.ifCond .ne 98, 3) := by decide +kernel
theorem dX4_reaches_69 : decode cX4_reaches 69 = .ok (.iload 5, 2) := by decide +kernel
theorem dX4_reaches_71 : decode cX4_reaches 71 = .ok (.iload_n 3, 1) := by decide +kernel
theorem dX4_reaches_72 : decode cX4_reaches 72 = .ok (.if_icmp .eq 92, 3) := by decide +kernel
theorem dX4_reaches_75 : decode cX4_reaches 75 = .ok (.iload_n 2, 1) := by decide +kernel
theorem dX4_reaches_76 : decode cX4_reaches 76 = .ok (.aload_n 0, 1) := by decide +kernel
theorem dX4_reaches_77 : decode cX4_reaches 77 = .ok (.getfield 17, 3) := by decide +kernel
theorem dX4_reaches_80 : decode cX4_reaches 80 = .ok (.iload 5, 2) := by decide +kernel
theorem dX4_reaches_82 : decode cX4_reaches 82 = .ok (.iaload, 1) := by decide +kernel
theorem dX4_reaches_83 : decode cX4_reaches 83 = .ok (.ishr, 1) := by decide +kernel
theorem dX4_reaches_84 : decode cX4_reaches 84 = .ok (.iconst 1, 1) := by decide +kernel
theorem dX4_reaches_85 : decode cX4_reaches 85 = .ok (.iand, 1) := by decide +kernel
theorem dX4_reaches_86 : decode cX4_reaches 86 = .ok (.iconst 1, 1) := by decide +kernel
theorem dX4_reaches_87 : decode cX4_reaches 87 = .ok (.if_icmp .eq 77, 3) := by decide +kernel
theorem dX4_reaches_90 : decode cX4_reaches 90 = .ok (.iload_n 2, 1) := by decide +kernel
theorem dX4_reaches_91 : decode cX4_reaches 91 = .ok (.aload_n 0, 1) := by decide +kernel
theorem dX4_reaches_92 : decode cX4_reaches 92 = .ok (.getfield 20, 3) := by decide +kernel
theorem dX4_reaches_95 : decode cX4_reaches 95 = .ok (.iload 5, 2) := by decide +kernel
theorem dX4_reaches_97 : decode cX4_reaches 97 = .ok (.iaload, 1) := by decide +kernel
theorem dX4_reaches_98 : decode cX4_reaches 98 = .ok (.ishr, 1) := by decide +kernel
theorem dX4_reaches_99 : decode cX4_reaches 99 = .ok (.iconst 1, 1) := by decide +kernel
theorem dX4_reaches_100 : decode cX4_reaches 100 = .ok (.iand, 1) := by decide +kernel
theorem dX4_reaches_101 : decode cX4_reaches 101 = .ok (.iconst 1, 1) := by decide +kernel
theorem dX4_reaches_102 : decode cX4_reaches 102 = .ok (.if_icmp .eq 62, 3) := by decide +kernel
theorem dX4_reaches_105 : decode cX4_reaches 105 = .ok (.aload_n 0, 1) := by decide +kernel
theorem dX4_reaches_106 : decode cX4_reaches 106 = .ok (.getfield 47, 3) := by decide +kernel
theorem dX4_reaches_109 : decode cX4_reaches 109 = .ok (.aload_n 0, 1) := by decide +kernel
theorem dX4_reaches_110 : decode cX4_reaches 110 = .ok (.getfield 17, 3) := by decide +kernel
theorem dX4_reaches_113 : decode cX4_reaches 113 = .ok (.iload 5, 2) := by decide +kernel
theorem dX4_reaches_115 : decode cX4_reaches 115 = .ok (.iaload, 1) := by decide +kernel
theorem dX4_reaches_116 : decode cX4_reaches 116 = .ok (.baload, 1) := by decide +kernel
theorem dX4_reaches_117 : decode cX4_reaches 117 = .ok (.aload_n 0, 1) := by decide +kernel
theorem dX4_reaches_118 : decode cX4_reaches 118 = .ok (.getfield 47, 3) := by decide +kernel
theorem dX4_reaches_121 : decode cX4_reaches 121 = .ok (.aload_n 0, 1) := by decide +kernel
theorem dX4_reaches_122 : decode cX4_reaches 122 = .ok (.getfield 20, 3) := by decide +kernel
theorem dX4_reaches_125 : decode cX4_reaches 125 = .ok (.iload 5, 2) := by decide +kernel
theorem dX4_reaches_127 : decode cX4_reaches 127 = .ok (.iaload, 1) := by decide +kernel
theorem dX4_reaches_128 : decode cX4_reaches 128 = .ok (.baload, 1) := by decide +kernel
theorem dX4_reaches_129 : decode cX4_reaches 129 = .ok (.if_icmp .ne 6, 3) := by decide +kernel
theorem dX4_reaches_132 : decode cX4_reaches 132 = .ok (.goto 32, 3) := by decide +kernel
theorem dX4_reaches_135 : decode cX4_reaches 135 = .ok (.aload_n 0, 1) := by decide +kernel
theorem dX4_reaches_136 : decode cX4_reaches 136 = .ok (.getfield 47, 3) := by decide +kernel
theorem dX4_reaches_139 : decode cX4_reaches 139 = .ok (.aload_n 0, 1) := by decide +kernel
theorem dX4_reaches_140 : decode cX4_reaches 140 = .ok (.getfield 17, 3) := by decide +kernel
theorem dX4_reaches_143 : decode cX4_reaches 143 = .ok (.iload 5, 2) := by decide +kernel
theorem dX4_reaches_145 : decode cX4_reaches 145 = .ok (.iaload, 1) := by decide +kernel
theorem dX4_reaches_146 : decode cX4_reaches 146 = .ok (.iconst 1, 1) := by decide +kernel
theorem dX4_reaches_147 : decode cX4_reaches 147 = .ok (.bastore, 1) := by decide +kernel
theorem dX4_reaches_148 : decode cX4_reaches 148 = .ok (.aload_n 0, 1) := by decide +kernel
theorem dX4_reaches_149 : decode cX4_reaches 149 = .ok (.getfield 47, 3) := by decide +kernel
theorem dX4_reaches_152 : decode cX4_reaches 152 = .ok (.aload_n 0, 1) := by decide +kernel
theorem dX4_reaches_153 : decode cX4_reaches 153 = .ok (.getfield 20, 3) := by decide +kernel
theorem dX4_reaches_156 : decode cX4_reaches 156 = .ok (.iload 5, 2) := by decide +kernel
theorem dX4_reaches_158 : decode cX4_reaches 158 = .ok (.iaload, 1) := by decide +kernel
theorem dX4_reaches_159 : decode cX4_reaches 159 = .ok (.iconst 1, 1) := by decide +kernel
theorem dX4_reaches_160 : decode cX4_reaches 160 = .ok (.bastore, 1) := by decide +kernel
theorem dX4_reaches_161 : decode cX4_reaches 161 = .ok (.iconst 1, 1) := by decide +kernel
theorem dX4_reaches_162 : decode cX4_reaches 162 = .ok (.istore 4, 2) := by decide +kernel
theorem dX4_reaches_164 : decode cX4_reaches 164 = .ok (.iinc 5 1, 3) := by decide +kernel
theorem dX4_reaches_167 : decode cX4_reaches 167 = .ok (.goto (-117), 3) := by decide +kernel
theorem dX4_reaches_170 : decode cX4_reaches 170 = .ok (.goto (-131), 3) := by decide +kernel
theorem dX4_reaches_173 : decode cX4_reaches 173 = .ok (.return_, 1) := by decide +kernel
theorem dX4_heapPrice_0 : decode cX4_heapPrice 0 = .ok (.iconst 0, 1) := by decide +kernel
theorem dX4_heapPrice_1 : decode cX4_heapPrice 1 = .ok (.istore_n 2, 1) := by decide +kernel
theorem dX4_heapPrice_2 : decode cX4_heapPrice 2 = .ok (.iconst 0, 1) := by decide +kernel
theorem dX4_heapPrice_3 : decode cX4_heapPrice 3 = .ok (.istore_n 3, 1) := by decide +kernel
theorem dX4_heapPrice_4 : decode cX4_heapPrice 4 = .ok (.iload_n 3, 1) := by decide +kernel
theorem dX4_heapPrice_5 : decode cX4_heapPrice 5 = .ok (.aload_n 0, 1) := by decide +kernel
theorem dX4_heapPrice_6 : decode cX4_heapPrice 6 = .ok (.getfield 50, 3) := by decide +kernel
theorem dX4_heapPrice_9 : decode cX4_heapPrice 9 = .ok (.if_icmp .ge 31, 3) := by decide +kernel
theorem dX4_heapPrice_12 : decode cX4_heapPrice 12 = .ok (.iload_n 2, 1) := by decide +kernel
theorem dX4_heapPrice_13 : decode cX4_heapPrice 13 = .ok (.iload_n 1, 1) := by decide +kernel
theorem dX4_heapPrice_14 : decode cX4_heapPrice 14 = .ok (.iload_n 3, 1) := by decide +kernel
theorem dX4_heapPrice_15 : decode cX4_heapPrice 15 = .ok (.ishr, 1) := by decide +kernel
theorem dX4_heapPrice_16 : decode cX4_heapPrice 16 = .ok (.iconst 1, 1) := by decide +kernel
theorem dX4_heapPrice_17 : decode cX4_heapPrice 17 = .ok (.iand, 1) := by decide +kernel
theorem dX4_heapPrice_18 : decode cX4_heapPrice 18 = .ok (.iconst 1, 1) := by decide +kernel
theorem dX4_heapPrice_19 : decode cX4_heapPrice 19 = .ok (.if_icmp .ne 12, 3) := by decide +kernel
theorem dX4_heapPrice_22 : decode cX4_heapPrice 22 = .ok (.aload_n 0, 1) := by decide +kernel
theorem dX4_heapPrice_23 : decode cX4_heapPrice 23 = .ok (.getfield 9, 3) := by decide +kernel
theorem dX4_heapPrice_26 : decode cX4_heapPrice 26 = .ok (.iload_n 3, 1) := by decide +kernel
theorem dX4_heapPrice_27 : decode cX4_heapPrice 27 = .ok (.iaload, 1) := by decide +kernel
theorem dX4_heapPrice_28 : decode cX4_heapPrice 28 = .ok (.goto 4, 3) := by decide +kernel
theorem dX4_heapPrice_31 : decode cX4_heapPrice 31 = .ok (.iconst 0, 1) := by decide +kernel
theorem dX4_heapPrice_32 : decode cX4_heapPrice 32 = .ok (.iadd, 1) := by decide +kernel
theorem dX4_heapPrice_33 : decode cX4_heapPrice 33 = .ok (.istore_n 2, 1) := by decide +kernel
theorem dX4_heapPrice_34 : decode cX4_heapPrice 34 = .ok (.iinc 3 1, 3) := by decide +kernel
theorem dX4_heapPrice_37 : decode cX4_heapPrice 37 = .ok (.goto (-33), 3) := by decide +kernel
theorem dX4_heapPrice_40 : decode cX4_heapPrice 40 = .ok (.iload_n 2, 1) := by decide +kernel
theorem dX4_heapPrice_41 : decode cX4_heapPrice 41 = .ok (.ireturn, 1) := by decide +kernel
theorem dX4_barOf_0 : decode cX4_barOf 0 = .ok (.iconst (-1), 1) := by decide +kernel
theorem dX4_barOf_1 : decode cX4_barOf 1 = .ok (.istore_n 3, 1) := by decide +kernel
theorem dX4_barOf_2 : decode cX4_barOf 2 = .ok (.iconst 0, 1) := by decide +kernel
theorem dX4_barOf_3 : decode cX4_barOf 3 = .ok (.istore 4, 2) := by decide +kernel
theorem dX4_barOf_5 : decode cX4_barOf 5 = .ok (.iload 4, 2) := by decide +kernel
theorem dX4_barOf_7 : decode cX4_barOf 7 = .ok (.iconst 1, 1) := by decide +kernel
theorem dX4_barOf_8 : decode cX4_barOf 8 = .ok (.aload_n 0, 1) := by decide +kernel
theorem dX4_barOf_9 : decode cX4_barOf 9 = .ok (.getfield 50, 3) := by decide +kernel
theorem dX4_barOf_12 : decode cX4_barOf 12 = .ok (.ishl, 1) := by decide +kernel
theorem dX4_barOf_13 : decode cX4_barOf 13 = .ok (.if_icmp .ge 71, 3) := by decide +kernel
theorem dX4_barOf_16 : decode cX4_barOf 16 = .ok (.iload 4, 2) := by decide +kernel
theorem dX4_barOf_18 : decode cX4_barOf 18 = .ok (.iload_n 1, 1) := by decide +kernel
theorem dX4_barOf_19 : decode cX4_barOf 19 = .ok (.ishr, 1) := by decide +kernel
theorem dX4_barOf_20 : decode cX4_barOf 20 = .ok (.iconst 1, 1) := by decide +kernel
theorem dX4_barOf_21 : decode cX4_barOf 21 = .ok (.iand, 1) := by decide +kernel
theorem dX4_barOf_22 : decode cX4_barOf 22 = .ok (.iconst 1, 1) := by decide +kernel
theorem dX4_barOf_23 : decode cX4_barOf 23 = .ok (.if_icmp .eq 55, 3) := by decide +kernel
theorem dX4_barOf_26 : decode cX4_barOf 26 = .ok (.iload 4, 2) := by decide +kernel
theorem dX4_barOf_28 : decode cX4_barOf 28 = .ok (.iload_n 2, 1) := by decide +kernel
theorem dX4_barOf_29 : decode cX4_barOf 29 = .ok (.ishr, 1) := by decide +kernel
theorem dX4_barOf_30 : decode cX4_barOf 30 = .ok (.iconst 1, 1) := by decide +kernel
theorem dX4_barOf_31 : decode cX4_barOf 31 = .ok (.iand, 1) := by decide +kernel
theorem dX4_barOf_32 : decode cX4_barOf 32 = .ok (.iconst 1, 1) := by decide +kernel
theorem dX4_barOf_33 : decode cX4_barOf 33 = .ok (.if_icmp .ne 6, 3) := by decide +kernel
theorem dX4_barOf_36 : decode cX4_barOf 36 = .ok (.goto 42, 3) := by decide +kernel
theorem dX4_barOf_39 : decode cX4_barOf 39 = .ok (.aload_n 0, 1) := by decide +kernel
theorem dX4_barOf_40 : decode cX4_barOf 40 = .ok (.iload_n 1, 1) := by decide +kernel
theorem dX4_barOf_41 : decode cX4_barOf 41 = .ok (.iload 4, 2) := by decide +kernel
theorem dX4_barOf_43 : decode cX4_barOf 43 = .ok (.iconst (-1), 1) := by decide +kernel
theorem dX4_barOf_44 : decode cX4_barOf 44 = .ok (.invokevirtual 126, 3) := by decide +kernel
theorem dX4_barOf_47 : decode cX4_barOf 47 = .ok (.aload_n 0, 1) := by decide +kernel
theorem dX4_barOf_48 : decode cX4_barOf 48 = .ok (.getfield 47, 3) := by decide +kernel
theorem dX4_barOf_51 : decode cX4_barOf 51 = .ok (.iload_n 2, 1) := by decide +kernel
theorem dX4_barOf_52 : decode cX4_barOf 52 = .ok (.baload, 1) := by decide +kernel
theorem dX4_barOf_53 : decode cX4_barOf 53 = .ok (.ifCond .ne 25, 3) := by decide +kernel
theorem dX4_barOf_56 : decode cX4_barOf 56 = .ok (.iload_n 3, 1) := by decide +kernel
theorem dX4_barOf_57 : decode cX4_barOf 57 = .ok (.iconst (-1), 1) := by decide +kernel
theorem dX4_barOf_58 : decode cX4_barOf 58 = .ok (.if_icmp .eq 17, 3) := by decide +kernel
theorem dX4_barOf_61 : decode cX4_barOf 61 = .ok (.aload_n 0, 1) := by decide +kernel
theorem dX4_barOf_62 : decode cX4_barOf 62 = .ok (.iload 4, 2) := by decide +kernel
theorem dX4_barOf_64 : decode cX4_barOf 64 = .ok (.invokevirtual 130, 3) := by decide +kernel
theorem dX4_barOf_67 : decode cX4_barOf 67 = .ok (.aload_n 0, 1) := by decide +kernel
theorem dX4_barOf_68 : decode cX4_barOf 68 = .ok (.iload_n 3, 1) := by decide +kernel
theorem dX4_barOf_69 : decode cX4_barOf 69 = .ok (.invokevirtual 130, 3) := by decide +kernel
theorem dX4_barOf_72 : decode cX4_barOf 72 = .ok (.if_icmp .ge 6, 3) := by decide +kernel
theorem dX4_barOf_75 : decode cX4_barOf 75 = .ok (.iload 4, 2) := by decide +kernel
theorem dX4_barOf_77 : decode cX4_barOf 77 = .ok (.istore_n 3, 1) := by decide +kernel
theorem dX4_barOf_78 : decode cX4_barOf 78 = .ok (.iinc 4 1, 3) := by decide +kernel
theorem dX4_barOf_81 : decode cX4_barOf 81 = .ok (.goto (-76), 3) := by decide +kernel
theorem dX4_barOf_84 : decode cX4_barOf 84 = .ok (.iload_n 3, 1) := by decide +kernel
theorem dX4_barOf_85 : decode cX4_barOf 85 = .ok (.ireturn, 1) := by decide +kernel
