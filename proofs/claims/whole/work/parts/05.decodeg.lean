theorem dX4_bar_0 : decode cX4_bar 0 = .ok (.aload_n 0, 1) := by decide +kernel
theorem dX4_bar_1 : decode cX4_bar 1 = .ok (.iload_n 1, 1) := by decide +kernel
theorem dX4_bar_2 : decode cX4_bar 2 = .ok (.iload_n 2, 1) := by decide +kernel
theorem dX4_bar_3 : decode cX4_bar 3 = .ok (.invokevirtual 112, 3) := by decide +kernel
theorem dX4_bar_6 : decode cX4_bar 6 = .ok (.ifCond .eq 13, 3) := by decide +kernel
theorem dX4_bar_9 : decode cX4_bar 9 = .ok (.aload_n 0, 1) := by decide +kernel
theorem dX4_bar_10 : decode cX4_bar 10 = .ok (.iload_n 1, 1) := by decide +kernel
theorem dX4_bar_11 : decode cX4_bar 11 = .ok (.iload_n 2, 1) := by decide +kernel
theorem dX4_bar_12 : decode cX4_bar 12 = .ok (.invokevirtual 133, 3) := by decide +kernel
theorem dX4_bar_15 : decode cX4_bar 15 = .ok (.iconst (-1), 1) := by decide +kernel
theorem dX4_bar_16 : decode cX4_bar 16 = .ok (.if_icmp .ne 5, 3) := by decide +kernel
theorem dX4_bar_19 : decode cX4_bar 19 = .ok (.iconst (-1), 1) := by decide +kernel
theorem dX4_bar_20 : decode cX4_bar 20 = .ok (.ireturn, 1) := by decide +kernel
theorem dX4_bar_21 : decode cX4_bar 21 = .ok (.aload_n 0, 1) := by decide +kernel
theorem dX4_bar_22 : decode cX4_bar 22 = .ok (.aload_n 0, 1) := by decide +kernel
theorem dX4_bar_23 : decode cX4_bar 23 = .ok (.iload_n 1, 1) := by decide +kernel
theorem dX4_bar_24 : decode cX4_bar 24 = .ok (.iload_n 2, 1) := by decide +kernel
theorem dX4_bar_25 : decode cX4_bar 25 = .ok (.invokevirtual 133, 3) := by decide +kernel
theorem dX4_bar_28 : decode cX4_bar 28 = .ok (.invokevirtual 130, 3) := by decide +kernel
theorem dX4_bar_31 : decode cX4_bar 31 = .ok (.ireturn, 1) := by decide +kernel
theorem dX4_bars_0 : decode cX4_bars 0 = .ok (.aload_n 0, 1) := by decide +kernel
theorem dX4_bars_1 : decode cX4_bars 1 = .ok (.iload_n 1, 1) := by decide +kernel
theorem dX4_bars_2 : decode cX4_bars 2 = .ok (.iload_n 2, 1) := by decide +kernel
theorem dX4_bars_3 : decode cX4_bars 3 = .ok (.invokevirtual 112, 3) := by decide +kernel
theorem dX4_bars_6 : decode cX4_bars 6 = .ok (.ifCond .eq 12, 3) := by decide +kernel
theorem dX4_bars_9 : decode cX4_bars 9 = .ok (.aload_n 0, 1) := by decide +kernel
theorem dX4_bars_10 : decode cX4_bars 10 = .ok (.iload_n 1, 1) := by decide +kernel
theorem dX4_bars_11 : decode cX4_bars 11 = .ok (.iload_n 2, 1) := by decide +kernel
theorem dX4_bars_12 : decode cX4_bars 12 = .ok (.invokevirtual 133, 3) := by decide +kernel
theorem dX4_bars_15 : decode cX4_bars 15 = .ok (.goto 4, 3) := by decide +kernel
theorem dX4_bars_18 : decode cX4_bars 18 = .ok (.iconst (-1), 1) := by decide +kernel
theorem dX4_bars_19 : decode cX4_bars 19 = .ok (.ireturn, 1) := by decide +kernel
theorem dX4_bridge_0 : decode cX4_bridge 0 = .ok (.aload_n 0, 1) := by decide +kernel
theorem dX4_bridge_1 : decode cX4_bridge 1 = .ok (.iload_n 1, 1) := by decide +kernel
theorem dX4_bridge_2 : decode cX4_bridge 2 = .ok (.invokevirtual 65, 3) := by decide +kernel
theorem dX4_bridge_5 : decode cX4_bridge 5 = .ok (.ifCond .ne 5, 3) := by decide +kernel
theorem dX4_bridge_8 : decode cX4_bridge 8 = .ok (.iconst 0, 1) := by decide +kernel
theorem dX4_bridge_9 : decode cX4_bridge 9 = .ok (.ireturn, 1) := by decide +kernel
theorem dX4_bridge_10 : decode cX4_bridge 10 = .ok (.aload_n 0, 1) := by decide +kernel
theorem dX4_bridge_11 : decode cX4_bridge 11 = .ok (.aload_n 0, 1) := by decide +kernel
theorem dX4_bridge_12 : decode cX4_bridge 12 = .ok (.getfield 17, 3) := by decide +kernel
theorem dX4_bridge_15 : decode cX4_bridge 15 = .ok (.iload_n 1, 1) := by decide +kernel
theorem dX4_bridge_16 : decode cX4_bridge 16 = .ok (.iaload, 1) := by decide +kernel
theorem dX4_bridge_17 : decode cX4_bridge 17 = .ok (.iconst 0, 1) := by decide +kernel
theorem dX4_bridge_18 : decode cX4_bridge 18 = .ok (.iload_n 1, 1) := by decide +kernel
theorem dX4_bridge_19 : decode cX4_bridge 19 = .ok (.invokevirtual 126, 3) := by decide +kernel
theorem dX4_bridge_22 : decode cX4_bridge 22 = .ok (.aload_n 0, 1) := by decide +kernel
theorem dX4_bridge_23 : decode cX4_bridge 23 = .ok (.getfield 47, 3) := by decide +kernel
theorem dX4_bridge_26 : decode cX4_bridge 26 = .ok (.aload_n 0, 1) := by decide +kernel
theorem dX4_bridge_27 : decode cX4_bridge 27 = .ok (.getfield 20, 3) := by decide +kernel
theorem dX4_bridge_30 : decode cX4_bridge 30 = .ok (.iload_n 1, 1) := by decide +kernel
theorem dX4_bridge_31 : decode cX4_bridge 31 = .ok (.iaload, 1) := by decide +kernel
theorem dX4_bridge_32 : decode cX4_bridge 32 = .ok (.baload, 1) := by decide +kernel
theorem dX4_bridge_33 : decode cX4_bridge 33 = .ok (.ifCond .ne 7, 3) := by decide +kernel
theorem dX4_bridge_36 : decode cX4_bridge 36 = .ok (.iconst 1, 1) := by decide +kernel
theorem dX4_bridge_37 : decode cX4_bridge 37 = .ok (.goto 4, 3) := by decide +kernel
theorem dX4_bridge_40 : decode cX4_bridge 40 = .ok (.iconst 0, 1) := by decide +kernel
theorem dX4_bridge_41 : decode cX4_bridge 41 = .ok (.ireturn, 1) := by decide +kernel
theorem dX4_hinge_0 : decode cX4_hinge 0 = .ok (.aload_n 0, 1) := by decide +kernel
theorem dX4_hinge_1 : decode cX4_hinge 1 = .ok (.iload_n 1, 1) := by decide +kernel
theorem dX4_hinge_2 : decode cX4_hinge 2 = .ok (.invokevirtual 61, 3) := by decide +kernel
theorem dX4_hinge_5 : decode cX4_hinge 5 = .ok (.ifCond .ne 5, 3) := by decide +kernel
theorem dX4_hinge_8 : decode cX4_hinge 8 = .ok (.iconst 0, 1) := by decide +kernel
theorem dX4_hinge_9 : decode cX4_hinge 9 = .ok (.ireturn, 1) := by decide +kernel
theorem dX4_hinge_10 : decode cX4_hinge 10 = .ok (.iconst 0, 1) := by decide +kernel
theorem dX4_hinge_11 : decode cX4_hinge 11 = .ok (.istore_n 2, 1) := by decide +kernel
theorem dX4_hinge_12 : decode cX4_hinge 12 = .ok (.iload_n 2, 1) := by decide +kernel
theorem dX4_hinge_13 : decode cX4_hinge 13 = .ok (.aload_n 0, 1) := by decide +kernel
theorem dX4_hinge_14 : decode cX4_hinge 14 = .ok (.getfield 50, 3) := by decide +kernel
theorem dX4_hinge_17 : decode cX4_hinge 17 = .ok (.if_icmp .ge 82, 3) := by decide +kernel
theorem dX4_hinge_20 : decode cX4_hinge 20 = .ok (.iconst 0, 1) := by decide +kernel
theorem dX4_hinge_21 : decode cX4_hinge 21 = .ok (.istore_n 3, 1) := by decide +kernel
theorem dX4_hinge_22 : decode cX4_hinge 22 = .ok (.iload_n 3, 1) := by decide +kernel
theorem dX4_hinge_23 : decode cX4_hinge 23 = .ok (.aload_n 0, 1) := by decide +kernel
theorem dX4_hinge_24 : decode cX4_hinge 24 = .ok (.getfield 50, 3) := by decide +kernel
theorem dX4_hinge_27 : decode cX4_hinge 27 = .ok (.if_icmp .ge 66, 3) := by decide +kernel
theorem dX4_hinge_30 : decode cX4_hinge 30 = .ok (.iload_n 2, 1) := by decide +kernel
theorem dX4_hinge_31 : decode cX4_hinge 31 = .ok (.iload_n 1, 1) := by decide +kernel
theorem dX4_hinge_32 : decode cX4_hinge 32 = .ok (.if_icmp .eq 55, 3) := by decide +kernel
theorem dX4_hinge_35 : decode cX4_hinge 35 = .ok (.iload_n 3, 1) := by decide +kernel
theorem dX4_hinge_36 : decode cX4_hinge 36 = .ok (.iload_n 1, 1) := by decide +kernel
theorem dX4_hinge_37 : decode cX4_hinge 37 = .ok (.if_icmp .eq 50, 3) := by decide +kernel
theorem dX4_hinge_40 : decode cX4_hinge 40 = .ok (.iload_n 3, 1) := by decide +kernel
theorem dX4_hinge_41 : decode cX4_hinge 41 = .ok (.iload_n 2, 1) := by decide +kernel
theorem dX4_hinge_42 : decode cX4_hinge 42 = .ok (.if_icmp .ne 6, 3) := by decide +kernel
theorem dX4_hinge_45 : decode cX4_hinge 45 = .ok (.goto 42, 3) := by decide +kernel
theorem dX4_hinge_48 : decode cX4_hinge 48 = .ok (.aload_n 0, 1) := by decide +kernel
theorem dX4_hinge_49 : decode cX4_hinge 49 = .ok (.iload_n 2, 1) := by decide +kernel
theorem dX4_hinge_50 : decode cX4_hinge 50 = .ok (.iconst 0, 1) := by decide +kernel
theorem dX4_hinge_51 : decode cX4_hinge 51 = .ok (.iconst (-1), 1) := by decide +kernel
theorem dX4_hinge_52 : decode cX4_hinge 52 = .ok (.invokevirtual 126, 3) := by decide +kernel
theorem dX4_hinge_55 : decode cX4_hinge 55 = .ok (.aload_n 0, 1) := by decide +kernel
theorem dX4_hinge_56 : decode cX4_hinge 56 = .ok (.getfield 47, 3) := by decide +kernel
theorem dX4_hinge_59 : decode cX4_hinge 59 = .ok (.iload_n 3, 1) := by decide +kernel
theorem dX4_hinge_60 : decode cX4_hinge 60 = .ok (.baload, 1) := by decide +kernel
theorem dX4_hinge_61 : decode cX4_hinge 61 = .ok (.ifCond .ne 6, 3) := by decide +kernel
theorem dX4_hinge_64 : decode cX4_hinge 64 = .ok (.goto 23, 3) := by decide +kernel
theorem dX4_hinge_67 : decode cX4_hinge 67 = .ok (.aload_n 0, 1) := by decide +kernel
theorem dX4_hinge_68 : decode cX4_hinge 68 = .ok (.iload_n 2, 1) := by decide +kernel
theorem dX4_hinge_69 : decode cX4_hinge 69 = .ok (.iconst 1, 1) := by decide +kernel
theorem dX4_hinge_70 : decode cX4_hinge 70 = .ok (.iload_n 1, 1) := by decide +kernel
theorem dX4_hinge_71 : decode cX4_hinge 71 = .ok (.ishl, 1) := by decide +kernel
theorem dX4_hinge_72 : decode cX4_hinge 72 = .ok (.iconst (-1), 1) := by decide +kernel
theorem dX4_hinge_73 : decode cX4_hinge 73 = .ok (.invokevirtual 126, 3) := by decide +kernel
theorem dX4_hinge_76 : decode cX4_hinge 76 = .ok (.aload_n 0, 1) := by decide +kernel
theorem dX4_hinge_77 : decode cX4_hinge 77 = .ok (.getfield 47, 3) := by decide +kernel
theorem dX4_hinge_80 : decode cX4_hinge 80 = .ok (.iload_n 3, 1) := by decide +kernel
theorem dX4_hinge_81 : decode cX4_hinge 81 = .ok (.baload, 1) := by decide +kernel
theorem dX4_hinge_82 : decode cX4_hinge 82 = .ok (.ifCond .ne 5, 3) := by decide +kernel
theorem dX4_hinge_85 : decode cX4_hinge 85 = .ok (.iconst 1, 1) := by decide +kernel
theorem dX4_hinge_86 : decode cX4_hinge 86 = .ok (.ireturn, 1) := by decide +kernel
theorem dX4_hinge_87 : decode cX4_hinge 87 = .ok (.iinc 3 1, 3) := by decide +kernel
theorem dX4_hinge_90 : decode cX4_hinge 90 = .ok (.goto (-68), 3) := by decide +kernel
theorem dX4_hinge_93 : decode cX4_hinge 93 = .ok (.iinc 2 1, 3) := by decide +kernel
theorem dX4_hinge_96 : decode cX4_hinge 96 = .ok (.goto (-84), 3) := by decide +kernel
theorem dX4_hinge_99 : decode cX4_hinge 99 = .ok (.iconst 0, 1) := by decide +kernel
theorem dX4_hinge_100 : decode cX4_hinge 100 = .ok (.ireturn, 1) := by decide +kernel
theorem dX4_count_0 : decode cX4_count 0 = .ok (.iconst 0, 1) := by decide +kernel
theorem dX4_count_1 : decode cX4_count 1 = .ok (.istore_n 2, 1) := by decide +kernel
theorem dX4_count_2 : decode cX4_count 2 = .ok (.iload_n 1, 1) := by decide +kernel
theorem dX4_count_3 : decode cX4_count 3 = .ok (.tableswitch 191 0 4 #[33, 38, 73, 108, 113], 33) := by decide +kernel
theorem dX4_count_36 : decode cX4_count 36 = .ok (.aload_n 0, 1) := by decide +kernel
theorem dX4_count_37 : decode cX4_count 37 = .ok (.getfield 50, 3) := by decide +kernel
theorem dX4_count_40 : decode cX4_count 40 = .ok (.ireturn, 1) := by decide +kernel
theorem dX4_count_41 : decode cX4_count 41 = .ok (.iconst 0, 1) := by decide +kernel
theorem dX4_count_42 : decode cX4_count 42 = .ok (.istore_n 3, 1) := by decide +kernel
theorem dX4_count_43 : decode cX4_count 43 = .ok (.iload_n 3, 1) := by decide +kernel
theorem dX4_count_44 : decode cX4_count 44 = .ok (.aload_n 0, 1) := by decide +kernel
theorem dX4_count_45 : decode cX4_count 45 = .ok (.getfield 58, 3) := by decide +kernel
theorem dX4_count_48 : decode cX4_count 48 = .ok (.if_icmp .ge 26, 3) := by decide +kernel
theorem dX4_count_51 : decode cX4_count 51 = .ok (.iload_n 2, 1) := by decide +kernel
theorem dX4_count_52 : decode cX4_count 52 = .ok (.aload_n 0, 1) := by decide +kernel
theorem dX4_count_53 : decode cX4_count 53 = .ok (.getfield 29, 3) := by decide +kernel
theorem dX4_count_56 : decode cX4_count 56 = .ok (.iload_n 3, 1) := by decide +kernel
theorem dX4_count_57 : decode cX4_count 57 = .ok (.baload, 1) := by decide +kernel
theorem dX4_count_58 : decode cX4_count 58 = .ok (.ifCond .eq 7, 3) := by decide +kernel
theorem dX4_count_61 : decode cX4_count 61 = .ok (.iconst 0, 1) := by decide +kernel
theorem dX4_count_62 : decode cX4_count 62 = .ok (.goto 4, 3) := by decide +kernel
theorem dX4_count_65 : decode cX4_count 65 = .ok (.iconst 1, 1) := by decide +kernel
theorem dX4_count_66 : decode cX4_count 66 = .ok (.iadd, 1) := by decide +kernel
theorem dX4_count_67 : decode cX4_count 67 = .ok (.istore_n 2, 1) := by decide +kernel
theorem dX4_count_68 : decode cX4_count 68 = .ok (.iinc 3 1, 3) := by decide +kernel
theorem dX4_count_71 : decode cX4_count 71 = .ok (.goto (-28), 3) := by decide +kernel
theorem dX4_count_74 : decode cX4_count 74 = .ok (.iload_n 2, 1) := by decide +kernel
theorem dX4_count_75 : decode cX4_count 75 = .ok (.ireturn, 1) := by decide +kernel
theorem dX4_count_76 : decode cX4_count 76 = .ok (.iconst 0, 1) := by decide +kernel
theorem dX4_count_77 : decode cX4_count 77 = .ok (.istore_n 3, 1) := by decide +kernel
theorem dX4_count_78 : decode cX4_count 78 = .ok (.iload_n 3, 1) := by decide +kernel
theorem dX4_count_79 : decode cX4_count 79 = .ok (.aload_n 0, 1) := by decide +kernel
theorem dX4_count_80 : decode cX4_count 80 = .ok (.getfield 50, 3) := by decide +kernel
theorem dX4_count_83 : decode cX4_count 83 = .ok (.if_icmp .ge 26, 3) := by decide +kernel
theorem dX4_count_86 : decode cX4_count 86 = .ok (.iload_n 2, 1) := by decide +kernel
theorem dX4_count_87 : decode cX4_count 87 = .ok (.aload_n 0, 1) := by decide +kernel
theorem dX4_count_88 : decode cX4_count 88 = .ok (.getfield 13, 3) := by decide +kernel
theorem dX4_count_91 : decode cX4_count 91 = .ok (.iload_n 3, 1) := by decide +kernel
theorem dX4_count_92 : decode cX4_count 92 = .ok (.baload, 1) := by decide +kernel
theorem dX4_count_93 : decode cX4_count 93 = .ok (.ifCond .eq 7, 3) := by decide +kernel
theorem dX4_count_96 : decode cX4_count 96 = .ok (.iconst 1, 1) := by decide +kernel
theorem dX4_count_97 : decode cX4_count 97 = .ok (.goto 4, 3) := by decide +kernel
theorem dX4_count_100 : decode cX4_count 100 = .ok (.iconst 0, 1) := by decide +kernel
theorem dX4_count_101 : decode cX4_count 101 = .ok (.iadd, 1) := by decide +kernel
theorem dX4_count_102 : decode cX4_count 102 = .ok (.istore_n 2, 1) := by decide +kernel
theorem dX4_count_103 : decode cX4_count 103 = .ok (.iinc 3 1, 3) := by decide +kernel
theorem dX4_count_106 : decode cX4_count 106 = .ok (.goto (-28), 3) := by decide +kernel
theorem dX4_count_109 : decode cX4_count 109 = .ok (.iload_n 2, 1) := by decide +kernel
theorem dX4_count_110 : decode cX4_count 110 = .ok (.ireturn, 1) := by decide +kernel
theorem dX4_count_111 : decode cX4_count 111 = .ok (.aload_n 0, 1) := by decide +kernel
theorem dX4_count_112 : decode cX4_count 112 = .ok (.getfield 68, 3) := by decide +kernel
theorem dX4_count_115 : decode cX4_count 115 = .ok (.ireturn, 1) := by decide +kernel
theorem dX4_count_116 : decode cX4_count 116 = .ok (.iconst 0, 1) := by decide +kernel
theorem dX4_count_117 : decode cX4_count 117 = .ok (.istore_n 3, 1) := by decide +kernel
theorem dX4_count_118 : decode cX4_count 118 = .ok (.iload_n 3, 1) := by decide +kernel
theorem dX4_count_119 : decode cX4_count 119 = .ok (.aload_n 0, 1) := by decide +kernel
theorem dX4_count_120 : decode cX4_count 120 = .ok (.getfield 50, 3) := by decide +kernel
theorem dX4_count_123 : decode cX4_count 123 = .ok (.if_icmp .ge 69, 3) := by decide +kernel
theorem dX4_count_126 : decode cX4_count 126 = .ok (.iconst 1, 1) := by decide +kernel
theorem dX4_count_127 : decode cX4_count 127 = .ok (.istore 4, 2) := by decide +kernel
theorem dX4_count_129 : decode cX4_count 129 = .ok (.aload_n 0, 1) := by decide +kernel
theorem dX4_count_130 : decode cX4_count 130 = .ok (.iload_n 3, 1) := by decide +kernel
theorem dX4_count_131 : decode cX4_count 131 = .ok (.iconst 0, 1) := by decide +kernel
theorem dX4_count_132 : decode cX4_count 132 = .ok (.iconst (-1), 1) := by decide +kernel
theorem dX4_count_133 : decode cX4_count 133 = .ok (.invokevirtual 126, 3) := by decide +kernel
theorem dX4_count_136 : decode cX4_count 136 = .ok (.iconst 0, 1) := by decide +kernel
theorem dX4_count_137 : decode cX4_count 137 = .ok (.istore 5, 2) := by decide +kernel
theorem dX4_count_139 : decode cX4_count 139 = .ok (.iload 5, 2) := by decide +kernel
theorem dX4_count_141 : decode cX4_count 141 = .ok (.iload_n 3, 1) := by decide +kernel
theorem dX4_count_142 : decode cX4_count 142 = .ok (.if_icmp .ge 31, 3) := by decide +kernel
theorem dX4_count_145 : decode cX4_count 145 = .ok (.iload 4, 2) := by decide +kernel
theorem dX4_count_147 : decode cX4_count 147 = .ok (.ifCond .eq 17, 3) := by decide +kernel
theorem dX4_count_150 : decode cX4_count 150 = .ok (.aload_n 0, 1) := by decide +kernel
theorem dX4_count_151 : decode cX4_count 151 = .ok (.getfield 47, 3) := by decide +kernel
theorem dX4_count_154 : decode cX4_count 154 = .ok (.iload 5, 2) := by decide +kernel
theorem dX4_count_156 : decode cX4_count 156 = .ok (.baload, 1) := by decide +kernel
theorem dX4_count_157 : decode cX4_count 157 = .ok (.ifCond .ne 7, 3) := by decide +kernel
theorem dX4_count_160 : decode cX4_count 160 = .ok (.iconst 1, 1) := by decide +kernel
theorem dX4_count_161 : decode cX4_count 161 = .ok (.goto 4, 3) := by decide +kernel
theorem dX4_count_164 : decode cX4_count 164 = .ok (.iconst 0, 1) := by decide +kernel
theorem dX4_count_165 : decode cX4_count 165 = .ok (.istore 4, 2) := by decide +kernel
theorem dX4_count_167 : decode cX4_count 167 = .ok (.iinc 5 1, 3) := by decide +kernel
theorem dX4_count_170 : decode cX4_count 170 = .ok (.goto (-31), 3) := by decide +kernel
theorem dX4_count_173 : decode cX4_count 173 = .ok (.iload_n 2, 1) := by decide +kernel
theorem dX4_count_174 : decode cX4_count 174 = .ok (.iload 4, 2) := by decide +kernel
theorem dX4_count_176 : decode cX4_count 176 = .ok (.ifCond .eq 7, 3) := by decide +kernel
theorem dX4_count_179 : decode cX4_count 179 = .ok (.iconst 1, 1) := by decide +kernel
theorem dX4_count_180 : decode cX4_count 180 = .ok (.goto 4, 3) := by decide +kernel
theorem dX4_count_183 : decode cX4_count 183 = .ok (.iconst 0, 1) := by decide +kernel
theorem dX4_count_184 : decode cX4_count 184 = .ok (.iadd, 1) := by decide +kernel
theorem dX4_count_185 : decode cX4_count 185 = .ok (.istore_n 2, 1) := by decide +kernel
theorem dX4_count_186 : decode cX4_count 186 = .ok (.iinc 3 1, 3) := by decide +kernel
theorem dX4_count_189 : decode cX4_count 189 = .ok (.goto (-71), 3) := by decide +kernel
theorem dX4_count_192 : decode cX4_count 192 = .ok (.iload_n 2, 1) := by decide +kernel
theorem dX4_count_193 : decode cX4_count 193 = .ok (.ireturn, 1) := by decide +kernel
theorem dX4_count_194 : decode cX4_count 194 = .ok (.iconst (-1), 1) := by decide +kernel
theorem dX4_count_195 : decode cX4_count 195 = .ok (.ireturn, 1) := by decide +kernel
theorem dJ9_max_7cf53_0 : decode cJ9_max_7cf53 0 = .ok (.iload_n 0, 1) := by decide +kernel
theorem dJ9_max_7cf53_1 : decode cJ9_max_7cf53 1 = .ok (.iload_n 1, 1) := by decide +kernel
theorem dJ9_max_7cf53_2 : decode cJ9_max_7cf53 2 = .ok (.if_icmp .lt 7, 3) := by decide +kernel
theorem dJ9_max_7cf53_5 : decode cJ9_max_7cf53 5 = .ok (.iload_n 0, 1) := by decide +kernel
theorem dJ9_max_7cf53_6 : decode cJ9_max_7cf53 6 = .ok (.goto 4, 3) := by decide +kernel
theorem dJ9_max_7cf53_9 : decode cJ9_max_7cf53 9 = .ok (.iload_n 1, 1) := by decide +kernel
theorem dJ9_max_7cf53_10 : decode cJ9_max_7cf53 10 = .ok (.ireturn, 1) := by decide +kernel
theorem dJ9_min_7cf53_0 : decode cJ9_min_7cf53 0 = .ok (.iload_n 0, 1) := by decide +kernel
theorem dJ9_min_7cf53_1 : decode cJ9_min_7cf53 1 = .ok (.iload_n 1, 1) := by decide +kernel
theorem dJ9_min_7cf53_2 : decode cJ9_min_7cf53 2 = .ok (.if_icmp .gt 7, 3) := by decide +kernel
theorem dJ9_min_7cf53_5 : decode cJ9_min_7cf53 5 = .ok (.iload_n 0, 1) := by decide +kernel
theorem dJ9_min_7cf53_6 : decode cJ9_min_7cf53 6 = .ok (.goto 4, 3) := by decide +kernel
theorem dJ9_min_7cf53_9 : decode cJ9_min_7cf53 9 = .ok (.iload_n 1, 1) := by decide +kernel
theorem dJ9_min_7cf53_10 : decode cJ9_min_7cf53 10 = .ok (.ireturn, 1) := by decide +kernel
