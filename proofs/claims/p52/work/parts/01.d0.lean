theorem kqdX0_init_0 : kq cX0_init [(0, .aload_n 0, 1), (1, .invokespecial 3, 3), (4, .aload_n 0, 1), (5, .bipush 72, 2), (7, .newarray .int, 2), (9, .putfield 11, 3), (12, .aload_n 0, 1), (13, .ldc 15, 2), (15, .putfield 16, 3), (18, .return_, 1)] = true := by decide +kernel
theorem dX0_init_0 : decode cX0_init 0 = .ok (.aload_n 0, 1) := kq.at kqdX0_init_0 0 rfl
theorem dX0_init_1 : decode cX0_init 1 = .ok (.invokespecial 3, 3) := kq.at kqdX0_init_0 1 rfl
theorem dX0_init_4 : decode cX0_init 4 = .ok (.aload_n 0, 1) := kq.at kqdX0_init_0 2 rfl
theorem dX0_init_5 : decode cX0_init 5 = .ok (.bipush 72, 2) := kq.at kqdX0_init_0 3 rfl
theorem dX0_init_7 : decode cX0_init 7 = .ok (.newarray .int, 2) := kq.at kqdX0_init_0 4 rfl
theorem dX0_init_9 : decode cX0_init 9 = .ok (.putfield 11, 3) := kq.at kqdX0_init_0 5 rfl
theorem dX0_init_12 : decode cX0_init 12 = .ok (.aload_n 0, 1) := kq.at kqdX0_init_0 6 rfl
theorem dX0_init_13 : decode cX0_init 13 = .ok (.ldc 15, 2) := kq.at kqdX0_init_0 7 rfl
theorem dX0_init_15 : decode cX0_init 15 = .ok (.putfield 16, 3) := kq.at kqdX0_init_0 8 rfl
theorem dX0_init_18 : decode cX0_init 18 = .ok (.return_, 1) := kq.at kqdX0_init_0 9 rfl
theorem kqdX0_shortestTwin_0 : kq cX0_shortestTwin [(0, .aload_n 0, 1), (1, .ldc 15, 2), (3, .putfield 16, 3), (6, .iconst 0, 1), (7, .istore_n 2, 1), (8, .iload_n 2, 1), (9, .bipush 72, 2), (11, .if_icmp .ge 17, 3), (14, .aload_n 0, 1), (15, .getfield 11, 3), (18, .iload_n 2, 1), (19, .ldc 15, 2), (21, .iastore, 1), (22, .iinc 2 1, 3), (25, .goto (-17), 3), (28, .iconst 0, 1), (29, .istore_n 2, 1), (30, .iload_n 2, 1), (31, .aload_n 1, 1), (32, .getfield 20, 3), (35, .if_icmp .ge 86, 3), (38, .iconst 0, 1), (39, .istore_n 3, 1), (40, .iload_n 3, 1)] = true := by decide +kernel
theorem dX0_shortestTwin_0 : decode cX0_shortestTwin 0 = .ok (.aload_n 0, 1) := kq.at kqdX0_shortestTwin_0 0 rfl
theorem dX0_shortestTwin_1 : decode cX0_shortestTwin 1 = .ok (.ldc 15, 2) := kq.at kqdX0_shortestTwin_0 1 rfl
theorem dX0_shortestTwin_3 : decode cX0_shortestTwin 3 = .ok (.putfield 16, 3) := kq.at kqdX0_shortestTwin_0 2 rfl
theorem dX0_shortestTwin_6 : decode cX0_shortestTwin 6 = .ok (.iconst 0, 1) := kq.at kqdX0_shortestTwin_0 3 rfl
theorem dX0_shortestTwin_7 : decode cX0_shortestTwin 7 = .ok (.istore_n 2, 1) := kq.at kqdX0_shortestTwin_0 4 rfl
theorem dX0_shortestTwin_8 : decode cX0_shortestTwin 8 = .ok (.iload_n 2, 1) := kq.at kqdX0_shortestTwin_0 5 rfl
theorem dX0_shortestTwin_9 : decode cX0_shortestTwin 9 = .ok (.bipush 72, 2) := kq.at kqdX0_shortestTwin_0 6 rfl
theorem dX0_shortestTwin_11 : decode cX0_shortestTwin 11 = .ok (.if_icmp .ge 17, 3) := kq.at kqdX0_shortestTwin_0 7 rfl
theorem dX0_shortestTwin_14 : decode cX0_shortestTwin 14 = .ok (.aload_n 0, 1) := kq.at kqdX0_shortestTwin_0 8 rfl
theorem dX0_shortestTwin_15 : decode cX0_shortestTwin 15 = .ok (.getfield 11, 3) := kq.at kqdX0_shortestTwin_0 9 rfl
theorem dX0_shortestTwin_18 : decode cX0_shortestTwin 18 = .ok (.iload_n 2, 1) := kq.at kqdX0_shortestTwin_0 10 rfl
theorem dX0_shortestTwin_19 : decode cX0_shortestTwin 19 = .ok (.ldc 15, 2) := kq.at kqdX0_shortestTwin_0 11 rfl
theorem dX0_shortestTwin_21 : decode cX0_shortestTwin 21 = .ok (.iastore, 1) := kq.at kqdX0_shortestTwin_0 12 rfl
theorem dX0_shortestTwin_22 : decode cX0_shortestTwin 22 = .ok (.iinc 2 1, 3) := kq.at kqdX0_shortestTwin_0 13 rfl
theorem dX0_shortestTwin_25 : decode cX0_shortestTwin 25 = .ok (.goto (-17), 3) := kq.at kqdX0_shortestTwin_0 14 rfl
theorem dX0_shortestTwin_28 : decode cX0_shortestTwin 28 = .ok (.iconst 0, 1) := kq.at kqdX0_shortestTwin_0 15 rfl
theorem dX0_shortestTwin_29 : decode cX0_shortestTwin 29 = .ok (.istore_n 2, 1) := kq.at kqdX0_shortestTwin_0 16 rfl
theorem dX0_shortestTwin_30 : decode cX0_shortestTwin 30 = .ok (.iload_n 2, 1) := kq.at kqdX0_shortestTwin_0 17 rfl
theorem dX0_shortestTwin_31 : decode cX0_shortestTwin 31 = .ok (.aload_n 1, 1) := kq.at kqdX0_shortestTwin_0 18 rfl
theorem dX0_shortestTwin_32 : decode cX0_shortestTwin 32 = .ok (.getfield 20, 3) := kq.at kqdX0_shortestTwin_0 19 rfl
theorem dX0_shortestTwin_35 : decode cX0_shortestTwin 35 = .ok (.if_icmp .ge 86, 3) := kq.at kqdX0_shortestTwin_0 20 rfl
theorem dX0_shortestTwin_38 : decode cX0_shortestTwin 38 = .ok (.iconst 0, 1) := kq.at kqdX0_shortestTwin_0 21 rfl
theorem dX0_shortestTwin_39 : decode cX0_shortestTwin 39 = .ok (.istore_n 3, 1) := kq.at kqdX0_shortestTwin_0 22 rfl
theorem dX0_shortestTwin_40 : decode cX0_shortestTwin 40 = .ok (.iload_n 3, 1) := kq.at kqdX0_shortestTwin_0 23 rfl
theorem kqdX0_shortestTwin_41 : kq cX0_shortestTwin [(41, .aload_n 1, 1), (42, .getfield 20, 3), (45, .if_icmp .ge 70, 3), (48, .iload_n 2, 1), (49, .iload_n 3, 1), (50, .if_icmp .eq 23, 3), (53, .aload_n 1, 1), (54, .iload_n 2, 1), (55, .invokevirtual 25, 3), (58, .ifCond .eq 15, 3), (61, .aload_n 1, 1), (62, .iload_n 3, 1), (63, .invokevirtual 25, 3), (66, .ifCond .eq 7, 3), (69, .iconst 1, 1), (70, .goto 4, 3), (73, .iconst 0, 1), (74, .istore 4, 2), (76, .iload 4, 2), (78, .ifCond .eq 31, 3), (81, .aload_n 1, 1), (82, .iload_n 2, 1), (83, .iload_n 3, 1), (84, .invokevirtual 29, 3)] = true := by decide +kernel
theorem dX0_shortestTwin_41 : decode cX0_shortestTwin 41 = .ok (.aload_n 1, 1) := kq.at kqdX0_shortestTwin_41 0 rfl
theorem dX0_shortestTwin_42 : decode cX0_shortestTwin 42 = .ok (.getfield 20, 3) := kq.at kqdX0_shortestTwin_41 1 rfl
theorem dX0_shortestTwin_45 : decode cX0_shortestTwin 45 = .ok (.if_icmp .ge 70, 3) := kq.at kqdX0_shortestTwin_41 2 rfl
theorem dX0_shortestTwin_48 : decode cX0_shortestTwin 48 = .ok (.iload_n 2, 1) := kq.at kqdX0_shortestTwin_41 3 rfl
theorem dX0_shortestTwin_49 : decode cX0_shortestTwin 49 = .ok (.iload_n 3, 1) := kq.at kqdX0_shortestTwin_41 4 rfl
theorem dX0_shortestTwin_50 : decode cX0_shortestTwin 50 = .ok (.if_icmp .eq 23, 3) := kq.at kqdX0_shortestTwin_41 5 rfl
theorem dX0_shortestTwin_53 : decode cX0_shortestTwin 53 = .ok (.aload_n 1, 1) := kq.at kqdX0_shortestTwin_41 6 rfl
theorem dX0_shortestTwin_54 : decode cX0_shortestTwin 54 = .ok (.iload_n 2, 1) := kq.at kqdX0_shortestTwin_41 7 rfl
theorem dX0_shortestTwin_55 : decode cX0_shortestTwin 55 = .ok (.invokevirtual 25, 3) := kq.at kqdX0_shortestTwin_41 8 rfl
theorem dX0_shortestTwin_58 : decode cX0_shortestTwin 58 = .ok (.ifCond .eq 15, 3) := kq.at kqdX0_shortestTwin_41 9 rfl
theorem dX0_shortestTwin_61 : decode cX0_shortestTwin 61 = .ok (.aload_n 1, 1) := kq.at kqdX0_shortestTwin_41 10 rfl
theorem dX0_shortestTwin_62 : decode cX0_shortestTwin 62 = .ok (.iload_n 3, 1) := kq.at kqdX0_shortestTwin_41 11 rfl
theorem dX0_shortestTwin_63 : decode cX0_shortestTwin 63 = .ok (.invokevirtual 25, 3) := kq.at kqdX0_shortestTwin_41 12 rfl
theorem dX0_shortestTwin_66 : decode cX0_shortestTwin 66 = .ok (.ifCond .eq 7, 3) := kq.at kqdX0_shortestTwin_41 13 rfl
theorem dX0_shortestTwin_69 : decode cX0_shortestTwin 69 = .ok (.iconst 1, 1) := kq.at kqdX0_shortestTwin_41 14 rfl
theorem dX0_shortestTwin_70 : decode cX0_shortestTwin 70 = .ok (.goto 4, 3) := kq.at kqdX0_shortestTwin_41 15 rfl
theorem dX0_shortestTwin_73 : decode cX0_shortestTwin 73 = .ok (.iconst 0, 1) := kq.at kqdX0_shortestTwin_41 16 rfl
theorem dX0_shortestTwin_74 : decode cX0_shortestTwin 74 = .ok (.istore 4, 2) := kq.at kqdX0_shortestTwin_41 17 rfl
theorem dX0_shortestTwin_76 : decode cX0_shortestTwin 76 = .ok (.iload 4, 2) := kq.at kqdX0_shortestTwin_41 18 rfl
theorem dX0_shortestTwin_78 : decode cX0_shortestTwin 78 = .ok (.ifCond .eq 31, 3) := kq.at kqdX0_shortestTwin_41 19 rfl
theorem dX0_shortestTwin_81 : decode cX0_shortestTwin 81 = .ok (.aload_n 1, 1) := kq.at kqdX0_shortestTwin_41 20 rfl
theorem dX0_shortestTwin_82 : decode cX0_shortestTwin 82 = .ok (.iload_n 2, 1) := kq.at kqdX0_shortestTwin_41 21 rfl
theorem dX0_shortestTwin_83 : decode cX0_shortestTwin 83 = .ok (.iload_n 3, 1) := kq.at kqdX0_shortestTwin_41 22 rfl
theorem dX0_shortestTwin_84 : decode cX0_shortestTwin 84 = .ok (.invokevirtual 29, 3) := kq.at kqdX0_shortestTwin_41 23 rfl
theorem kqdX0_shortestTwin_87 : kq cX0_shortestTwin [(87, .ifCond .eq 22, 3), (90, .aload_n 0, 1), (91, .iload_n 3, 1), (92, .aload_n 1, 1), (93, .getfield 33, 3), (96, .iload_n 2, 1), (97, .iaload, 1), (98, .aload_n 1, 1), (99, .getfield 33, 3), (102, .iload_n 3, 1), (103, .iaload, 1), (104, .aload_n 1, 1), (105, .invokevirtual 36, 3), (108, .pop, 1), (109, .iinc 3 1, 3), (112, .goto (-72), 3), (115, .iinc 2 1, 3), (118, .goto (-88), 3), (121, .iconst 1, 1), (122, .istore_n 2, 1), (123, .iconst 0, 1), (124, .istore_n 3, 1), (125, .iload_n 3, 1), (126, .bipush 72, 2)] = true := by decide +kernel
theorem dX0_shortestTwin_87 : decode cX0_shortestTwin 87 = .ok (.ifCond .eq 22, 3) := kq.at kqdX0_shortestTwin_87 0 rfl
theorem dX0_shortestTwin_90 : decode cX0_shortestTwin 90 = .ok (.aload_n 0, 1) := kq.at kqdX0_shortestTwin_87 1 rfl
theorem dX0_shortestTwin_91 : decode cX0_shortestTwin 91 = .ok (.iload_n 3, 1) := kq.at kqdX0_shortestTwin_87 2 rfl
theorem dX0_shortestTwin_92 : decode cX0_shortestTwin 92 = .ok (.aload_n 1, 1) := kq.at kqdX0_shortestTwin_87 3 rfl
theorem dX0_shortestTwin_93 : decode cX0_shortestTwin 93 = .ok (.getfield 33, 3) := kq.at kqdX0_shortestTwin_87 4 rfl
theorem dX0_shortestTwin_96 : decode cX0_shortestTwin 96 = .ok (.iload_n 2, 1) := kq.at kqdX0_shortestTwin_87 5 rfl
theorem dX0_shortestTwin_97 : decode cX0_shortestTwin 97 = .ok (.iaload, 1) := kq.at kqdX0_shortestTwin_87 6 rfl
theorem dX0_shortestTwin_98 : decode cX0_shortestTwin 98 = .ok (.aload_n 1, 1) := kq.at kqdX0_shortestTwin_87 7 rfl
theorem dX0_shortestTwin_99 : decode cX0_shortestTwin 99 = .ok (.getfield 33, 3) := kq.at kqdX0_shortestTwin_87 8 rfl
theorem dX0_shortestTwin_102 : decode cX0_shortestTwin 102 = .ok (.iload_n 3, 1) := kq.at kqdX0_shortestTwin_87 9 rfl
theorem dX0_shortestTwin_103 : decode cX0_shortestTwin 103 = .ok (.iaload, 1) := kq.at kqdX0_shortestTwin_87 10 rfl
theorem dX0_shortestTwin_104 : decode cX0_shortestTwin 104 = .ok (.aload_n 1, 1) := kq.at kqdX0_shortestTwin_87 11 rfl
theorem dX0_shortestTwin_105 : decode cX0_shortestTwin 105 = .ok (.invokevirtual 36, 3) := kq.at kqdX0_shortestTwin_87 12 rfl
theorem dX0_shortestTwin_108 : decode cX0_shortestTwin 108 = .ok (.pop, 1) := kq.at kqdX0_shortestTwin_87 13 rfl
theorem dX0_shortestTwin_109 : decode cX0_shortestTwin 109 = .ok (.iinc 3 1, 3) := kq.at kqdX0_shortestTwin_87 14 rfl
theorem dX0_shortestTwin_112 : decode cX0_shortestTwin 112 = .ok (.goto (-72), 3) := kq.at kqdX0_shortestTwin_87 15 rfl
theorem dX0_shortestTwin_115 : decode cX0_shortestTwin 115 = .ok (.iinc 2 1, 3) := kq.at kqdX0_shortestTwin_87 16 rfl
theorem dX0_shortestTwin_118 : decode cX0_shortestTwin 118 = .ok (.goto (-88), 3) := kq.at kqdX0_shortestTwin_87 17 rfl
theorem dX0_shortestTwin_121 : decode cX0_shortestTwin 121 = .ok (.iconst 1, 1) := kq.at kqdX0_shortestTwin_87 18 rfl
theorem dX0_shortestTwin_122 : decode cX0_shortestTwin 122 = .ok (.istore_n 2, 1) := kq.at kqdX0_shortestTwin_87 19 rfl
theorem dX0_shortestTwin_123 : decode cX0_shortestTwin 123 = .ok (.iconst 0, 1) := kq.at kqdX0_shortestTwin_87 20 rfl
theorem dX0_shortestTwin_124 : decode cX0_shortestTwin 124 = .ok (.istore_n 3, 1) := kq.at kqdX0_shortestTwin_87 21 rfl
theorem dX0_shortestTwin_125 : decode cX0_shortestTwin 125 = .ok (.iload_n 3, 1) := kq.at kqdX0_shortestTwin_87 22 rfl
theorem dX0_shortestTwin_126 : decode cX0_shortestTwin 126 = .ok (.bipush 72, 2) := kq.at kqdX0_shortestTwin_87 23 rfl
theorem kqdX0_shortestTwin_128 : kq cX0_shortestTwin [(128, .if_icmp .ge 19, 3), (131, .iload_n 2, 1), (132, .ifCond .eq 15, 3), (135, .aload_n 0, 1), (136, .aload_n 1, 1), (137, .invokevirtual 40, 3), (140, .istore_n 2, 1), (141, .iinc 3 1, 3), (144, .goto (-19), 3), (147, .aload_n 0, 1), (148, .getfield 16, 3), (151, .ldc 15, 2), (153, .if_icmp .ne 7, 3), (156, .iconst (-1), 1), (157, .goto 7, 3), (160, .aload_n 0, 1), (161, .getfield 16, 3), (164, .ireturn, 1)] = true := by decide +kernel
theorem dX0_shortestTwin_128 : decode cX0_shortestTwin 128 = .ok (.if_icmp .ge 19, 3) := kq.at kqdX0_shortestTwin_128 0 rfl
theorem dX0_shortestTwin_131 : decode cX0_shortestTwin 131 = .ok (.iload_n 2, 1) := kq.at kqdX0_shortestTwin_128 1 rfl
theorem dX0_shortestTwin_132 : decode cX0_shortestTwin 132 = .ok (.ifCond .eq 15, 3) := kq.at kqdX0_shortestTwin_128 2 rfl
theorem dX0_shortestTwin_135 : decode cX0_shortestTwin 135 = .ok (.aload_n 0, 1) := kq.at kqdX0_shortestTwin_128 3 rfl
theorem dX0_shortestTwin_136 : decode cX0_shortestTwin 136 = .ok (.aload_n 1, 1) := kq.at kqdX0_shortestTwin_128 4 rfl
theorem dX0_shortestTwin_137 : decode cX0_shortestTwin 137 = .ok (.invokevirtual 40, 3) := kq.at kqdX0_shortestTwin_128 5 rfl
theorem dX0_shortestTwin_140 : decode cX0_shortestTwin 140 = .ok (.istore_n 2, 1) := kq.at kqdX0_shortestTwin_128 6 rfl
theorem dX0_shortestTwin_141 : decode cX0_shortestTwin 141 = .ok (.iinc 3 1, 3) := kq.at kqdX0_shortestTwin_128 7 rfl
theorem dX0_shortestTwin_144 : decode cX0_shortestTwin 144 = .ok (.goto (-19), 3) := kq.at kqdX0_shortestTwin_128 8 rfl
theorem dX0_shortestTwin_147 : decode cX0_shortestTwin 147 = .ok (.aload_n 0, 1) := kq.at kqdX0_shortestTwin_128 9 rfl
theorem dX0_shortestTwin_148 : decode cX0_shortestTwin 148 = .ok (.getfield 16, 3) := kq.at kqdX0_shortestTwin_128 10 rfl
theorem dX0_shortestTwin_151 : decode cX0_shortestTwin 151 = .ok (.ldc 15, 2) := kq.at kqdX0_shortestTwin_128 11 rfl
theorem dX0_shortestTwin_153 : decode cX0_shortestTwin 153 = .ok (.if_icmp .ne 7, 3) := kq.at kqdX0_shortestTwin_128 12 rfl
theorem dX0_shortestTwin_156 : decode cX0_shortestTwin 156 = .ok (.iconst (-1), 1) := kq.at kqdX0_shortestTwin_128 13 rfl
theorem dX0_shortestTwin_157 : decode cX0_shortestTwin 157 = .ok (.goto 7, 3) := kq.at kqdX0_shortestTwin_128 14 rfl
theorem dX0_shortestTwin_160 : decode cX0_shortestTwin 160 = .ok (.aload_n 0, 1) := kq.at kqdX0_shortestTwin_128 15 rfl
theorem dX0_shortestTwin_161 : decode cX0_shortestTwin 161 = .ok (.getfield 16, 3) := kq.at kqdX0_shortestTwin_128 16 rfl
theorem dX0_shortestTwin_164 : decode cX0_shortestTwin 164 = .ok (.ireturn, 1) := kq.at kqdX0_shortestTwin_128 17 rfl
theorem kqdX0_reach_0 : kq cX0_reach [(0, .iload_n 2, 1), (1, .aload 4, 2), (3, .getfield 33, 3), (6, .iload_n 1, 1), (7, .iaload, 1), (8, .if_icmp .lt 17, 3), (11, .aload_n 0, 1), (12, .aload_n 0, 1), (13, .getfield 16, 3), (16, .iload_n 3, 1), (17, .invokestatic 44, 3), (20, .putfield 16, 3), (23, .iconst 0, 1), (24, .ireturn, 1), (25, .iload_n 1, 1), (26, .iconst 3, 1), (27, .imul, 1), (28, .iload_n 2, 1), (29, .iadd, 1), (30, .istore 5, 2), (32, .iload_n 3, 1), (33, .aload_n 0, 1), (34, .getfield 11, 3), (37, .iload 5, 2)] = true := by decide +kernel
theorem dX0_reach_0 : decode cX0_reach 0 = .ok (.iload_n 2, 1) := kq.at kqdX0_reach_0 0 rfl
theorem dX0_reach_1 : decode cX0_reach 1 = .ok (.aload 4, 2) := kq.at kqdX0_reach_0 1 rfl
theorem dX0_reach_3 : decode cX0_reach 3 = .ok (.getfield 33, 3) := kq.at kqdX0_reach_0 2 rfl
theorem dX0_reach_6 : decode cX0_reach 6 = .ok (.iload_n 1, 1) := kq.at kqdX0_reach_0 3 rfl
theorem dX0_reach_7 : decode cX0_reach 7 = .ok (.iaload, 1) := kq.at kqdX0_reach_0 4 rfl
theorem dX0_reach_8 : decode cX0_reach 8 = .ok (.if_icmp .lt 17, 3) := kq.at kqdX0_reach_0 5 rfl
theorem dX0_reach_11 : decode cX0_reach 11 = .ok (.aload_n 0, 1) := kq.at kqdX0_reach_0 6 rfl
theorem dX0_reach_12 : decode cX0_reach 12 = .ok (.aload_n 0, 1) := kq.at kqdX0_reach_0 7 rfl
theorem dX0_reach_13 : decode cX0_reach 13 = .ok (.getfield 16, 3) := kq.at kqdX0_reach_0 8 rfl
theorem dX0_reach_16 : decode cX0_reach 16 = .ok (.iload_n 3, 1) := kq.at kqdX0_reach_0 9 rfl
theorem dX0_reach_17 : decode cX0_reach 17 = .ok (.invokestatic 44, 3) := kq.at kqdX0_reach_0 10 rfl
theorem dX0_reach_20 : decode cX0_reach 20 = .ok (.putfield 16, 3) := kq.at kqdX0_reach_0 11 rfl
theorem dX0_reach_23 : decode cX0_reach 23 = .ok (.iconst 0, 1) := kq.at kqdX0_reach_0 12 rfl
theorem dX0_reach_24 : decode cX0_reach 24 = .ok (.ireturn, 1) := kq.at kqdX0_reach_0 13 rfl
theorem dX0_reach_25 : decode cX0_reach 25 = .ok (.iload_n 1, 1) := kq.at kqdX0_reach_0 14 rfl
theorem dX0_reach_26 : decode cX0_reach 26 = .ok (.iconst 3, 1) := kq.at kqdX0_reach_0 15 rfl
theorem dX0_reach_27 : decode cX0_reach 27 = .ok (.imul, 1) := kq.at kqdX0_reach_0 16 rfl
theorem dX0_reach_28 : decode cX0_reach 28 = .ok (.iload_n 2, 1) := kq.at kqdX0_reach_0 17 rfl
theorem dX0_reach_29 : decode cX0_reach 29 = .ok (.iadd, 1) := kq.at kqdX0_reach_0 18 rfl
theorem dX0_reach_30 : decode cX0_reach 30 = .ok (.istore 5, 2) := kq.at kqdX0_reach_0 19 rfl
theorem dX0_reach_32 : decode cX0_reach 32 = .ok (.iload_n 3, 1) := kq.at kqdX0_reach_0 20 rfl
theorem dX0_reach_33 : decode cX0_reach 33 = .ok (.aload_n 0, 1) := kq.at kqdX0_reach_0 21 rfl
theorem dX0_reach_34 : decode cX0_reach 34 = .ok (.getfield 11, 3) := kq.at kqdX0_reach_0 22 rfl
theorem dX0_reach_37 : decode cX0_reach 37 = .ok (.iload 5, 2) := kq.at kqdX0_reach_0 23 rfl
theorem kqdX0_reach_39 : kq cX0_reach [(39, .iaload, 1), (40, .if_icmp .ge 7, 3), (43, .iconst 1, 1), (44, .goto 4, 3), (47, .iconst 0, 1), (48, .istore 6, 2), (50, .iload 6, 2), (52, .ifCond .eq 11, 3), (55, .aload_n 0, 1), (56, .getfield 11, 3), (59, .iload 5, 2), (61, .iload_n 3, 1), (62, .iastore, 1), (63, .iload 6, 2), (65, .ireturn, 1)] = true := by decide +kernel
theorem dX0_reach_39 : decode cX0_reach 39 = .ok (.iaload, 1) := kq.at kqdX0_reach_39 0 rfl
theorem dX0_reach_40 : decode cX0_reach 40 = .ok (.if_icmp .ge 7, 3) := kq.at kqdX0_reach_39 1 rfl
theorem dX0_reach_43 : decode cX0_reach 43 = .ok (.iconst 1, 1) := kq.at kqdX0_reach_39 2 rfl
theorem dX0_reach_44 : decode cX0_reach 44 = .ok (.goto 4, 3) := kq.at kqdX0_reach_39 3 rfl
theorem dX0_reach_47 : decode cX0_reach 47 = .ok (.iconst 0, 1) := kq.at kqdX0_reach_39 4 rfl
theorem dX0_reach_48 : decode cX0_reach 48 = .ok (.istore 6, 2) := kq.at kqdX0_reach_39 5 rfl
theorem dX0_reach_50 : decode cX0_reach 50 = .ok (.iload 6, 2) := kq.at kqdX0_reach_39 6 rfl
theorem dX0_reach_52 : decode cX0_reach 52 = .ok (.ifCond .eq 11, 3) := kq.at kqdX0_reach_39 7 rfl
theorem dX0_reach_55 : decode cX0_reach 55 = .ok (.aload_n 0, 1) := kq.at kqdX0_reach_39 8 rfl
theorem dX0_reach_56 : decode cX0_reach 56 = .ok (.getfield 11, 3) := kq.at kqdX0_reach_39 9 rfl
theorem dX0_reach_59 : decode cX0_reach 59 = .ok (.iload 5, 2) := kq.at kqdX0_reach_39 10 rfl
theorem dX0_reach_61 : decode cX0_reach 61 = .ok (.iload_n 3, 1) := kq.at kqdX0_reach_39 11 rfl
theorem dX0_reach_62 : decode cX0_reach 62 = .ok (.iastore, 1) := kq.at kqdX0_reach_39 12 rfl
theorem dX0_reach_63 : decode cX0_reach 63 = .ok (.iload 6, 2) := kq.at kqdX0_reach_39 13 rfl
theorem dX0_reach_65 : decode cX0_reach 65 = .ok (.ireturn, 1) := kq.at kqdX0_reach_39 14 rfl
theorem kqdX0_goOn_0 : kq cX0_goOn [(0, .iconst 0, 1), (1, .istore_n 2, 1), (2, .iconst 0, 1), (3, .istore_n 3, 1), (4, .iload_n 3, 1), (5, .bipush 72, 2), (7, .if_icmp .ge 60, 3), (10, .iconst 0, 1), (11, .istore 4, 2), (13, .aload_n 0, 1), (14, .getfield 11, 3), (17, .iload_n 3, 1), (18, .iaload, 1), (19, .ldc 15, 2), (21, .if_icmp .ge 40, 3), (24, .iload 4, 2), (26, .aload_n 1, 1), (27, .getfield 20, 3), (30, .if_icmp .ge 31, 3), (33, .aload_n 1, 1), (34, .iload 4, 2), (36, .invokevirtual 25, 3), (39, .ifCond .eq 16, 3), (42, .aload_n 0, 1)] = true := by decide +kernel
theorem dX0_goOn_0 : decode cX0_goOn 0 = .ok (.iconst 0, 1) := kq.at kqdX0_goOn_0 0 rfl
theorem dX0_goOn_1 : decode cX0_goOn 1 = .ok (.istore_n 2, 1) := kq.at kqdX0_goOn_0 1 rfl
theorem dX0_goOn_2 : decode cX0_goOn 2 = .ok (.iconst 0, 1) := kq.at kqdX0_goOn_0 2 rfl
theorem dX0_goOn_3 : decode cX0_goOn 3 = .ok (.istore_n 3, 1) := kq.at kqdX0_goOn_0 3 rfl
theorem dX0_goOn_4 : decode cX0_goOn 4 = .ok (.iload_n 3, 1) := kq.at kqdX0_goOn_0 4 rfl
theorem dX0_goOn_5 : decode cX0_goOn 5 = .ok (.bipush 72, 2) := kq.at kqdX0_goOn_0 5 rfl
theorem dX0_goOn_7 : decode cX0_goOn 7 = .ok (.if_icmp .ge 60, 3) := kq.at kqdX0_goOn_0 6 rfl
theorem dX0_goOn_10 : decode cX0_goOn 10 = .ok (.iconst 0, 1) := kq.at kqdX0_goOn_0 7 rfl
theorem dX0_goOn_11 : decode cX0_goOn 11 = .ok (.istore 4, 2) := kq.at kqdX0_goOn_0 8 rfl
theorem dX0_goOn_13 : decode cX0_goOn 13 = .ok (.aload_n 0, 1) := kq.at kqdX0_goOn_0 9 rfl
theorem dX0_goOn_14 : decode cX0_goOn 14 = .ok (.getfield 11, 3) := kq.at kqdX0_goOn_0 10 rfl
theorem dX0_goOn_17 : decode cX0_goOn 17 = .ok (.iload_n 3, 1) := kq.at kqdX0_goOn_0 11 rfl
theorem dX0_goOn_18 : decode cX0_goOn 18 = .ok (.iaload, 1) := kq.at kqdX0_goOn_0 12 rfl
theorem dX0_goOn_19 : decode cX0_goOn 19 = .ok (.ldc 15, 2) := kq.at kqdX0_goOn_0 13 rfl
theorem dX0_goOn_21 : decode cX0_goOn 21 = .ok (.if_icmp .ge 40, 3) := kq.at kqdX0_goOn_0 14 rfl
theorem dX0_goOn_24 : decode cX0_goOn 24 = .ok (.iload 4, 2) := kq.at kqdX0_goOn_0 15 rfl
theorem dX0_goOn_26 : decode cX0_goOn 26 = .ok (.aload_n 1, 1) := kq.at kqdX0_goOn_0 16 rfl
theorem dX0_goOn_27 : decode cX0_goOn 27 = .ok (.getfield 20, 3) := kq.at kqdX0_goOn_0 17 rfl
theorem dX0_goOn_30 : decode cX0_goOn 30 = .ok (.if_icmp .ge 31, 3) := kq.at kqdX0_goOn_0 18 rfl
theorem dX0_goOn_33 : decode cX0_goOn 33 = .ok (.aload_n 1, 1) := kq.at kqdX0_goOn_0 19 rfl
theorem dX0_goOn_34 : decode cX0_goOn 34 = .ok (.iload 4, 2) := kq.at kqdX0_goOn_0 20 rfl
theorem dX0_goOn_36 : decode cX0_goOn 36 = .ok (.invokevirtual 25, 3) := kq.at kqdX0_goOn_0 21 rfl
theorem dX0_goOn_39 : decode cX0_goOn 39 = .ok (.ifCond .eq 16, 3) := kq.at kqdX0_goOn_0 22 rfl
theorem dX0_goOn_42 : decode cX0_goOn 42 = .ok (.aload_n 0, 1) := kq.at kqdX0_goOn_0 23 rfl
theorem kqdX0_goOn_43 : kq cX0_goOn [(43, .iload_n 3, 1), (44, .iload 4, 2), (46, .aload_n 1, 1), (47, .invokevirtual 50, 3), (50, .ifCond .eq 5, 3), (53, .iconst 1, 1), (54, .istore_n 2, 1), (55, .iinc 4 1, 3), (58, .goto (-45), 3), (61, .iinc 3 1, 3), (64, .goto (-60), 3), (67, .iload_n 2, 1), (68, .ireturn, 1)] = true := by decide +kernel
theorem dX0_goOn_43 : decode cX0_goOn 43 = .ok (.iload_n 3, 1) := kq.at kqdX0_goOn_43 0 rfl
theorem dX0_goOn_44 : decode cX0_goOn 44 = .ok (.iload 4, 2) := kq.at kqdX0_goOn_43 1 rfl
theorem dX0_goOn_46 : decode cX0_goOn 46 = .ok (.aload_n 1, 1) := kq.at kqdX0_goOn_43 2 rfl
theorem dX0_goOn_47 : decode cX0_goOn 47 = .ok (.invokevirtual 50, 3) := kq.at kqdX0_goOn_43 3 rfl
theorem dX0_goOn_50 : decode cX0_goOn 50 = .ok (.ifCond .eq 5, 3) := kq.at kqdX0_goOn_43 4 rfl
theorem dX0_goOn_53 : decode cX0_goOn 53 = .ok (.iconst 1, 1) := kq.at kqdX0_goOn_43 5 rfl
theorem dX0_goOn_54 : decode cX0_goOn 54 = .ok (.istore_n 2, 1) := kq.at kqdX0_goOn_43 6 rfl
theorem dX0_goOn_55 : decode cX0_goOn 55 = .ok (.iinc 4 1, 3) := kq.at kqdX0_goOn_43 7 rfl
theorem dX0_goOn_58 : decode cX0_goOn 58 = .ok (.goto (-45), 3) := kq.at kqdX0_goOn_43 8 rfl
theorem dX0_goOn_61 : decode cX0_goOn 61 = .ok (.iinc 3 1, 3) := kq.at kqdX0_goOn_43 9 rfl
theorem dX0_goOn_64 : decode cX0_goOn 64 = .ok (.goto (-60), 3) := kq.at kqdX0_goOn_43 10 rfl
theorem dX0_goOn_67 : decode cX0_goOn 67 = .ok (.iload_n 2, 1) := kq.at kqdX0_goOn_43 11 rfl
theorem dX0_goOn_68 : decode cX0_goOn 68 = .ok (.ireturn, 1) := kq.at kqdX0_goOn_43 12 rfl
theorem kqdX0_append_0 : kq cX0_append [(0, .iload_n 1, 1), (1, .iconst 3, 1), (2, .idiv, 1), (3, .istore 4, 2), (5, .iload_n 1, 1), (6, .iconst 3, 1), (7, .irem, 1), (8, .istore 5, 2), (10, .aload_n 3, 1), (11, .getfield 33, 3), (14, .iload 4, 2), (16, .iaload, 1), (17, .iload 5, 2), (19, .isub, 1), (20, .istore 6, 2), (22, .aload_n 3, 1), (23, .getfield 33, 3), (26, .iload_n 2, 1), (27, .iaload, 1), (28, .istore 7, 2), (30, .aload_n 3, 1), (31, .iload 4, 2), (33, .iload 5, 2), (35, .iload_n 2, 1)] = true := by decide +kernel
theorem dX0_append_0 : decode cX0_append 0 = .ok (.iload_n 1, 1) := kq.at kqdX0_append_0 0 rfl
theorem dX0_append_1 : decode cX0_append 1 = .ok (.iconst 3, 1) := kq.at kqdX0_append_0 1 rfl
theorem dX0_append_2 : decode cX0_append 2 = .ok (.idiv, 1) := kq.at kqdX0_append_0 2 rfl
theorem dX0_append_3 : decode cX0_append 3 = .ok (.istore 4, 2) := kq.at kqdX0_append_0 3 rfl
theorem dX0_append_5 : decode cX0_append 5 = .ok (.iload_n 1, 1) := kq.at kqdX0_append_0 4 rfl
theorem dX0_append_6 : decode cX0_append 6 = .ok (.iconst 3, 1) := kq.at kqdX0_append_0 5 rfl
theorem dX0_append_7 : decode cX0_append 7 = .ok (.irem, 1) := kq.at kqdX0_append_0 6 rfl
theorem dX0_append_8 : decode cX0_append 8 = .ok (.istore 5, 2) := kq.at kqdX0_append_0 7 rfl
theorem dX0_append_10 : decode cX0_append 10 = .ok (.aload_n 3, 1) := kq.at kqdX0_append_0 8 rfl
theorem dX0_append_11 : decode cX0_append 11 = .ok (.getfield 33, 3) := kq.at kqdX0_append_0 9 rfl
theorem dX0_append_14 : decode cX0_append 14 = .ok (.iload 4, 2) := kq.at kqdX0_append_0 10 rfl
theorem dX0_append_16 : decode cX0_append 16 = .ok (.iaload, 1) := kq.at kqdX0_append_0 11 rfl
theorem dX0_append_17 : decode cX0_append 17 = .ok (.iload 5, 2) := kq.at kqdX0_append_0 12 rfl
theorem dX0_append_19 : decode cX0_append 19 = .ok (.isub, 1) := kq.at kqdX0_append_0 13 rfl
theorem dX0_append_20 : decode cX0_append 20 = .ok (.istore 6, 2) := kq.at kqdX0_append_0 14 rfl
theorem dX0_append_22 : decode cX0_append 22 = .ok (.aload_n 3, 1) := kq.at kqdX0_append_0 15 rfl
theorem dX0_append_23 : decode cX0_append 23 = .ok (.getfield 33, 3) := kq.at kqdX0_append_0 16 rfl
theorem dX0_append_26 : decode cX0_append 26 = .ok (.iload_n 2, 1) := kq.at kqdX0_append_0 17 rfl
theorem dX0_append_27 : decode cX0_append 27 = .ok (.iaload, 1) := kq.at kqdX0_append_0 18 rfl
theorem dX0_append_28 : decode cX0_append 28 = .ok (.istore 7, 2) := kq.at kqdX0_append_0 19 rfl
theorem dX0_append_30 : decode cX0_append 30 = .ok (.aload_n 3, 1) := kq.at kqdX0_append_0 20 rfl
theorem dX0_append_31 : decode cX0_append 31 = .ok (.iload 4, 2) := kq.at kqdX0_append_0 21 rfl
theorem dX0_append_33 : decode cX0_append 33 = .ok (.iload 5, 2) := kq.at kqdX0_append_0 22 rfl
theorem dX0_append_35 : decode cX0_append 35 = .ok (.iload_n 2, 1) := kq.at kqdX0_append_0 23 rfl
theorem kqdX0_append_36 : kq cX0_append [(36, .iconst 0, 1), (37, .iload 6, 2), (39, .iload 7, 2), (41, .invokestatic 44, 3), (44, .invokevirtual 54, 3), (47, .ifCond .ne 5, 3), (50, .iconst 0, 1), (51, .ireturn, 1), (52, .iload 7, 2), (54, .iload 6, 2), (56, .if_icmp .gt 22, 3), (59, .aload_n 0, 1), (60, .iload 4, 2), (62, .iload 5, 2), (64, .iload 7, 2), (66, .iadd, 1), (67, .aload_n 0, 1), (68, .getfield 11, 3), (71, .iload_n 1, 1), (72, .iaload, 1), (73, .aload_n 3, 1), (74, .invokevirtual 36, 3), (77, .ireturn, 1), (78, .aload_n 0, 1)] = true := by decide +kernel
theorem dX0_append_36 : decode cX0_append 36 = .ok (.iconst 0, 1) := kq.at kqdX0_append_36 0 rfl
theorem dX0_append_37 : decode cX0_append 37 = .ok (.iload 6, 2) := kq.at kqdX0_append_36 1 rfl
theorem dX0_append_39 : decode cX0_append 39 = .ok (.iload 7, 2) := kq.at kqdX0_append_36 2 rfl
theorem dX0_append_41 : decode cX0_append 41 = .ok (.invokestatic 44, 3) := kq.at kqdX0_append_36 3 rfl
theorem dX0_append_44 : decode cX0_append 44 = .ok (.invokevirtual 54, 3) := kq.at kqdX0_append_36 4 rfl
theorem dX0_append_47 : decode cX0_append 47 = .ok (.ifCond .ne 5, 3) := kq.at kqdX0_append_36 5 rfl
theorem dX0_append_50 : decode cX0_append 50 = .ok (.iconst 0, 1) := kq.at kqdX0_append_36 6 rfl
theorem dX0_append_51 : decode cX0_append 51 = .ok (.ireturn, 1) := kq.at kqdX0_append_36 7 rfl
theorem dX0_append_52 : decode cX0_append 52 = .ok (.iload 7, 2) := kq.at kqdX0_append_36 8 rfl
theorem dX0_append_54 : decode cX0_append 54 = .ok (.iload 6, 2) := kq.at kqdX0_append_36 9 rfl
theorem dX0_append_56 : decode cX0_append 56 = .ok (.if_icmp .gt 22, 3) := kq.at kqdX0_append_36 10 rfl
theorem dX0_append_59 : decode cX0_append 59 = .ok (.aload_n 0, 1) := kq.at kqdX0_append_36 11 rfl
theorem dX0_append_60 : decode cX0_append 60 = .ok (.iload 4, 2) := kq.at kqdX0_append_36 12 rfl
theorem dX0_append_62 : decode cX0_append 62 = .ok (.iload 5, 2) := kq.at kqdX0_append_36 13 rfl
theorem dX0_append_64 : decode cX0_append 64 = .ok (.iload 7, 2) := kq.at kqdX0_append_36 14 rfl
theorem dX0_append_66 : decode cX0_append 66 = .ok (.iadd, 1) := kq.at kqdX0_append_36 15 rfl
theorem dX0_append_67 : decode cX0_append 67 = .ok (.aload_n 0, 1) := kq.at kqdX0_append_36 16 rfl
theorem dX0_append_68 : decode cX0_append 68 = .ok (.getfield 11, 3) := kq.at kqdX0_append_36 17 rfl
theorem dX0_append_71 : decode cX0_append 71 = .ok (.iload_n 1, 1) := kq.at kqdX0_append_36 18 rfl
theorem dX0_append_72 : decode cX0_append 72 = .ok (.iaload, 1) := kq.at kqdX0_append_36 19 rfl
theorem dX0_append_73 : decode cX0_append 73 = .ok (.aload_n 3, 1) := kq.at kqdX0_append_36 20 rfl
theorem dX0_append_74 : decode cX0_append 74 = .ok (.invokevirtual 36, 3) := kq.at kqdX0_append_36 21 rfl
theorem dX0_append_77 : decode cX0_append 77 = .ok (.ireturn, 1) := kq.at kqdX0_append_36 22 rfl
theorem dX0_append_78 : decode cX0_append 78 = .ok (.aload_n 0, 1) := kq.at kqdX0_append_36 23 rfl
theorem kqdX0_append_79 : kq cX0_append [(79, .iload_n 2, 1), (80, .iload 6, 2), (82, .aload_n 0, 1), (83, .getfield 11, 3), (86, .iload_n 1, 1), (87, .iaload, 1), (88, .iload 7, 2), (90, .iadd, 1), (91, .iload 6, 2), (93, .isub, 1), (94, .aload_n 3, 1), (95, .invokevirtual 36, 3), (98, .ireturn, 1)] = true := by decide +kernel
theorem dX0_append_79 : decode cX0_append 79 = .ok (.iload_n 2, 1) := kq.at kqdX0_append_79 0 rfl
theorem dX0_append_80 : decode cX0_append 80 = .ok (.iload 6, 2) := kq.at kqdX0_append_79 1 rfl
theorem dX0_append_82 : decode cX0_append 82 = .ok (.aload_n 0, 1) := kq.at kqdX0_append_79 2 rfl
theorem dX0_append_83 : decode cX0_append 83 = .ok (.getfield 11, 3) := kq.at kqdX0_append_79 3 rfl
theorem dX0_append_86 : decode cX0_append 86 = .ok (.iload_n 1, 1) := kq.at kqdX0_append_79 4 rfl
theorem dX0_append_87 : decode cX0_append 87 = .ok (.iaload, 1) := kq.at kqdX0_append_79 5 rfl
theorem dX0_append_88 : decode cX0_append 88 = .ok (.iload 7, 2) := kq.at kqdX0_append_79 6 rfl
theorem dX0_append_90 : decode cX0_append 90 = .ok (.iadd, 1) := kq.at kqdX0_append_79 7 rfl
theorem dX0_append_91 : decode cX0_append 91 = .ok (.iload 6, 2) := kq.at kqdX0_append_79 8 rfl
theorem dX0_append_93 : decode cX0_append 93 = .ok (.isub, 1) := kq.at kqdX0_append_79 9 rfl
theorem dX0_append_94 : decode cX0_append 94 = .ok (.aload_n 3, 1) := kq.at kqdX0_append_79 10 rfl
theorem dX0_append_95 : decode cX0_append 95 = .ok (.invokevirtual 36, 3) := kq.at kqdX0_append_79 11 rfl
theorem dX0_append_98 : decode cX0_append 98 = .ok (.ireturn, 1) := kq.at kqdX0_append_79 12 rfl
theorem kqdX1_init_0 : kq cX1_init [(0, .aload_n 0, 1), (1, .invokespecial 3, 3), (4, .aload_n 0, 1), (5, .sipush 150, 3), (8, .newarray .int, 2), (10, .putfield 9, 3), (13, .aload_n 0, 1), (14, .sipush 150, 3), (17, .newarray .int, 2), (19, .putfield 15, 3), (22, .aload_n 0, 1), (23, .iconst 0, 1), (24, .putfield 18, 3), (27, .aload_n 0, 1), (28, .sipush 550, 3), (31, .newarray .int, 2), (33, .putfield 22, 3), (36, .aload_n 0, 1), (37, .sipush 550, 3), (40, .newarray .int, 2), (42, .putfield 25, 3), (45, .aload_n 0, 1), (46, .sipush 550, 3), (49, .newarray .int, 2)] = true := by decide +kernel
theorem dX1_init_0 : decode cX1_init 0 = .ok (.aload_n 0, 1) := kq.at kqdX1_init_0 0 rfl
theorem dX1_init_1 : decode cX1_init 1 = .ok (.invokespecial 3, 3) := kq.at kqdX1_init_0 1 rfl
theorem dX1_init_4 : decode cX1_init 4 = .ok (.aload_n 0, 1) := kq.at kqdX1_init_0 2 rfl
theorem dX1_init_5 : decode cX1_init 5 = .ok (.sipush 150, 3) := kq.at kqdX1_init_0 3 rfl
theorem dX1_init_8 : decode cX1_init 8 = .ok (.newarray .int, 2) := kq.at kqdX1_init_0 4 rfl
theorem dX1_init_10 : decode cX1_init 10 = .ok (.putfield 9, 3) := kq.at kqdX1_init_0 5 rfl
theorem dX1_init_13 : decode cX1_init 13 = .ok (.aload_n 0, 1) := kq.at kqdX1_init_0 6 rfl
theorem dX1_init_14 : decode cX1_init 14 = .ok (.sipush 150, 3) := kq.at kqdX1_init_0 7 rfl
theorem dX1_init_17 : decode cX1_init 17 = .ok (.newarray .int, 2) := kq.at kqdX1_init_0 8 rfl
theorem dX1_init_19 : decode cX1_init 19 = .ok (.putfield 15, 3) := kq.at kqdX1_init_0 9 rfl
theorem dX1_init_22 : decode cX1_init 22 = .ok (.aload_n 0, 1) := kq.at kqdX1_init_0 10 rfl
theorem dX1_init_23 : decode cX1_init 23 = .ok (.iconst 0, 1) := kq.at kqdX1_init_0 11 rfl
theorem dX1_init_24 : decode cX1_init 24 = .ok (.putfield 18, 3) := kq.at kqdX1_init_0 12 rfl
theorem dX1_init_27 : decode cX1_init 27 = .ok (.aload_n 0, 1) := kq.at kqdX1_init_0 13 rfl
theorem dX1_init_28 : decode cX1_init 28 = .ok (.sipush 550, 3) := kq.at kqdX1_init_0 14 rfl
theorem dX1_init_31 : decode cX1_init 31 = .ok (.newarray .int, 2) := kq.at kqdX1_init_0 15 rfl
theorem dX1_init_33 : decode cX1_init 33 = .ok (.putfield 22, 3) := kq.at kqdX1_init_0 16 rfl
theorem dX1_init_36 : decode cX1_init 36 = .ok (.aload_n 0, 1) := kq.at kqdX1_init_0 17 rfl
theorem dX1_init_37 : decode cX1_init 37 = .ok (.sipush 550, 3) := kq.at kqdX1_init_0 18 rfl
theorem dX1_init_40 : decode cX1_init 40 = .ok (.newarray .int, 2) := kq.at kqdX1_init_0 19 rfl
theorem dX1_init_42 : decode cX1_init 42 = .ok (.putfield 25, 3) := kq.at kqdX1_init_0 20 rfl
theorem dX1_init_45 : decode cX1_init 45 = .ok (.aload_n 0, 1) := kq.at kqdX1_init_0 21 rfl
theorem dX1_init_46 : decode cX1_init 46 = .ok (.sipush 550, 3) := kq.at kqdX1_init_0 22 rfl
theorem dX1_init_49 : decode cX1_init 49 = .ok (.newarray .int, 2) := kq.at kqdX1_init_0 23 rfl
theorem kqdX1_init_51 : kq cX1_init [(51, .putfield 28, 3), (54, .aload_n 0, 1), (55, .iconst 0, 1), (56, .putfield 31, 3), (59, .aload_n 0, 1), (60, .iconst 0, 1), (61, .putfield 34, 3), (64, .aload_n 0, 1), (65, .sipush 151, 3), (68, .newarray .int, 2), (70, .putfield 37, 3), (73, .return_, 1)] = true := by decide +kernel
theorem dX1_init_51 : decode cX1_init 51 = .ok (.putfield 28, 3) := kq.at kqdX1_init_51 0 rfl
theorem dX1_init_54 : decode cX1_init 54 = .ok (.aload_n 0, 1) := kq.at kqdX1_init_51 1 rfl
theorem dX1_init_55 : decode cX1_init 55 = .ok (.iconst 0, 1) := kq.at kqdX1_init_51 2 rfl
theorem dX1_init_56 : decode cX1_init 56 = .ok (.putfield 31, 3) := kq.at kqdX1_init_51 3 rfl
theorem dX1_init_59 : decode cX1_init 59 = .ok (.aload_n 0, 1) := kq.at kqdX1_init_51 4 rfl
theorem dX1_init_60 : decode cX1_init 60 = .ok (.iconst 0, 1) := kq.at kqdX1_init_51 5 rfl
theorem dX1_init_61 : decode cX1_init 61 = .ok (.putfield 34, 3) := kq.at kqdX1_init_51 6 rfl
theorem dX1_init_64 : decode cX1_init 64 = .ok (.aload_n 0, 1) := kq.at kqdX1_init_51 7 rfl
theorem dX1_init_65 : decode cX1_init 65 = .ok (.sipush 151, 3) := kq.at kqdX1_init_51 8 rfl
theorem dX1_init_68 : decode cX1_init 68 = .ok (.newarray .int, 2) := kq.at kqdX1_init_51 9 rfl
theorem dX1_init_70 : decode cX1_init 70 = .ok (.putfield 37, 3) := kq.at kqdX1_init_51 10 rfl
theorem dX1_init_73 : decode cX1_init 73 = .ok (.return_, 1) := kq.at kqdX1_init_51 11 rfl
theorem kqdX1_lay_0 : kq cX1_lay [(0, .aload_n 0, 1), (1, .iconst 0, 1), (2, .putfield 18, 3), (5, .aload_n 0, 1), (6, .iconst 0, 1), (7, .putfield 31, 3), (10, .aload_n 0, 1), (11, .aload_n 2, 1), (12, .getfield 40, 3), (15, .iconst 3, 1), (16, .iaload, 1), (17, .putfield 34, 3), (20, .iconst 0, 1), (21, .istore_n 3, 1), (22, .iconst 1, 1), (23, .istore 4, 2), (25, .iload 4, 2), (27, .aload_n 1, 1), (28, .getfield 45, 3), (31, .if_icmp .gt 56, 3), (34, .iload 4, 2), (36, .aload_n 1, 1), (37, .getfield 45, 3), (40, .if_icmp .eq 13, 3)] = true := by decide +kernel
theorem dX1_lay_0 : decode cX1_lay 0 = .ok (.aload_n 0, 1) := kq.at kqdX1_lay_0 0 rfl
theorem dX1_lay_1 : decode cX1_lay 1 = .ok (.iconst 0, 1) := kq.at kqdX1_lay_0 1 rfl
theorem dX1_lay_2 : decode cX1_lay 2 = .ok (.putfield 18, 3) := kq.at kqdX1_lay_0 2 rfl
theorem dX1_lay_5 : decode cX1_lay 5 = .ok (.aload_n 0, 1) := kq.at kqdX1_lay_0 3 rfl
theorem dX1_lay_6 : decode cX1_lay 6 = .ok (.iconst 0, 1) := kq.at kqdX1_lay_0 4 rfl
theorem dX1_lay_7 : decode cX1_lay 7 = .ok (.putfield 31, 3) := kq.at kqdX1_lay_0 5 rfl
theorem dX1_lay_10 : decode cX1_lay 10 = .ok (.aload_n 0, 1) := kq.at kqdX1_lay_0 6 rfl
theorem dX1_lay_11 : decode cX1_lay 11 = .ok (.aload_n 2, 1) := kq.at kqdX1_lay_0 7 rfl
theorem dX1_lay_12 : decode cX1_lay 12 = .ok (.getfield 40, 3) := kq.at kqdX1_lay_0 8 rfl
theorem dX1_lay_15 : decode cX1_lay 15 = .ok (.iconst 3, 1) := kq.at kqdX1_lay_0 9 rfl
theorem dX1_lay_16 : decode cX1_lay 16 = .ok (.iaload, 1) := kq.at kqdX1_lay_0 10 rfl
theorem dX1_lay_17 : decode cX1_lay 17 = .ok (.putfield 34, 3) := kq.at kqdX1_lay_0 11 rfl
theorem dX1_lay_20 : decode cX1_lay 20 = .ok (.iconst 0, 1) := kq.at kqdX1_lay_0 12 rfl
theorem dX1_lay_21 : decode cX1_lay 21 = .ok (.istore_n 3, 1) := kq.at kqdX1_lay_0 13 rfl
theorem dX1_lay_22 : decode cX1_lay 22 = .ok (.iconst 1, 1) := kq.at kqdX1_lay_0 14 rfl
theorem dX1_lay_23 : decode cX1_lay 23 = .ok (.istore 4, 2) := kq.at kqdX1_lay_0 15 rfl
theorem dX1_lay_25 : decode cX1_lay 25 = .ok (.iload 4, 2) := kq.at kqdX1_lay_0 16 rfl
theorem dX1_lay_27 : decode cX1_lay 27 = .ok (.aload_n 1, 1) := kq.at kqdX1_lay_0 17 rfl
theorem dX1_lay_28 : decode cX1_lay 28 = .ok (.getfield 45, 3) := kq.at kqdX1_lay_0 18 rfl
theorem dX1_lay_31 : decode cX1_lay 31 = .ok (.if_icmp .gt 56, 3) := kq.at kqdX1_lay_0 19 rfl
theorem dX1_lay_34 : decode cX1_lay 34 = .ok (.iload 4, 2) := kq.at kqdX1_lay_0 20 rfl
theorem dX1_lay_36 : decode cX1_lay 36 = .ok (.aload_n 1, 1) := kq.at kqdX1_lay_0 21 rfl
theorem dX1_lay_37 : decode cX1_lay 37 = .ok (.getfield 45, 3) := kq.at kqdX1_lay_0 22 rfl
theorem dX1_lay_40 : decode cX1_lay 40 = .ok (.if_icmp .eq 13, 3) := kq.at kqdX1_lay_0 23 rfl
theorem kqdX1_lay_43 : kq cX1_lay [(43, .aload_n 1, 1), (44, .getfield 50, 3), (47, .iload 4, 2), (49, .iaload, 1), (50, .ifCond .ne 31, 3), (53, .aload_n 0, 1), (54, .iload_n 3, 1), (55, .iload 4, 2), (57, .iload_n 3, 1), (58, .isub, 1), (59, .aload_n 2, 1), (60, .getfield 40, 3), (63, .iconst 2, 1), (64, .iaload, 1), (65, .ifCond .eq 7, 3), (68, .iconst 1, 1), (69, .goto 4, 3), (72, .iconst 0, 1), (73, .invokevirtual 53, 3), (76, .iload 4, 2), (78, .iconst 1, 1), (79, .iadd, 1), (80, .istore_n 3, 1), (81, .iinc 4 1, 3)] = true := by decide +kernel
theorem dX1_lay_43 : decode cX1_lay 43 = .ok (.aload_n 1, 1) := kq.at kqdX1_lay_43 0 rfl
theorem dX1_lay_44 : decode cX1_lay 44 = .ok (.getfield 50, 3) := kq.at kqdX1_lay_43 1 rfl
theorem dX1_lay_47 : decode cX1_lay 47 = .ok (.iload 4, 2) := kq.at kqdX1_lay_43 2 rfl
theorem dX1_lay_49 : decode cX1_lay 49 = .ok (.iaload, 1) := kq.at kqdX1_lay_43 3 rfl
theorem dX1_lay_50 : decode cX1_lay 50 = .ok (.ifCond .ne 31, 3) := kq.at kqdX1_lay_43 4 rfl
theorem dX1_lay_53 : decode cX1_lay 53 = .ok (.aload_n 0, 1) := kq.at kqdX1_lay_43 5 rfl
theorem dX1_lay_54 : decode cX1_lay 54 = .ok (.iload_n 3, 1) := kq.at kqdX1_lay_43 6 rfl
theorem dX1_lay_55 : decode cX1_lay 55 = .ok (.iload 4, 2) := kq.at kqdX1_lay_43 7 rfl
theorem dX1_lay_57 : decode cX1_lay 57 = .ok (.iload_n 3, 1) := kq.at kqdX1_lay_43 8 rfl
theorem dX1_lay_58 : decode cX1_lay 58 = .ok (.isub, 1) := kq.at kqdX1_lay_43 9 rfl
theorem dX1_lay_59 : decode cX1_lay 59 = .ok (.aload_n 2, 1) := kq.at kqdX1_lay_43 10 rfl
theorem dX1_lay_60 : decode cX1_lay 60 = .ok (.getfield 40, 3) := kq.at kqdX1_lay_43 11 rfl
theorem dX1_lay_63 : decode cX1_lay 63 = .ok (.iconst 2, 1) := kq.at kqdX1_lay_43 12 rfl
theorem dX1_lay_64 : decode cX1_lay 64 = .ok (.iaload, 1) := kq.at kqdX1_lay_43 13 rfl
theorem dX1_lay_65 : decode cX1_lay 65 = .ok (.ifCond .eq 7, 3) := kq.at kqdX1_lay_43 14 rfl
theorem dX1_lay_68 : decode cX1_lay 68 = .ok (.iconst 1, 1) := kq.at kqdX1_lay_43 15 rfl
theorem dX1_lay_69 : decode cX1_lay 69 = .ok (.goto 4, 3) := kq.at kqdX1_lay_43 16 rfl
theorem dX1_lay_72 : decode cX1_lay 72 = .ok (.iconst 0, 1) := kq.at kqdX1_lay_43 17 rfl
theorem dX1_lay_73 : decode cX1_lay 73 = .ok (.invokevirtual 53, 3) := kq.at kqdX1_lay_43 18 rfl
theorem dX1_lay_76 : decode cX1_lay 76 = .ok (.iload 4, 2) := kq.at kqdX1_lay_43 19 rfl
theorem dX1_lay_78 : decode cX1_lay 78 = .ok (.iconst 1, 1) := kq.at kqdX1_lay_43 20 rfl
theorem dX1_lay_79 : decode cX1_lay 79 = .ok (.iadd, 1) := kq.at kqdX1_lay_43 21 rfl
theorem dX1_lay_80 : decode cX1_lay 80 = .ok (.istore_n 3, 1) := kq.at kqdX1_lay_43 22 rfl
theorem dX1_lay_81 : decode cX1_lay 81 = .ok (.iinc 4 1, 3) := kq.at kqdX1_lay_43 23 rfl
theorem kqdX1_lay_84 : kq cX1_lay [(84, .goto (-59), 3), (87, .return_, 1)] = true := by decide +kernel
theorem dX1_lay_84 : decode cX1_lay 84 = .ok (.goto (-59), 3) := kq.at kqdX1_lay_84 0 rfl
theorem dX1_lay_87 : decode cX1_lay 87 = .ok (.return_, 1) := kq.at kqdX1_lay_84 1 rfl
theorem kqdX1_layPiece_0 : kq cX1_layPiece [(0, .aload_n 0, 1), (1, .getfield 18, 3), (4, .sipush 150, 3), (7, .if_icmp .lt 4, 3), (10, .return_, 1), (11, .aload_n 0, 1), (12, .getfield 9, 3), (15, .aload_n 0, 1), (16, .getfield 18, 3), (19, .iload_n 2, 1), (20, .iastore, 1), (21, .aload_n 0, 1), (22, .getfield 31, 3), (25, .iconst 1, 1), (26, .isub, 1), (27, .istore 4, 2), (29, .iload 4, 2), (31, .ifCond .lt 48, 3), (34, .aload_n 0, 1), (35, .getfield 25, 3), (38, .iload 4, 2), (40, .iaload, 1), (41, .iconst 1, 1), (42, .iadd, 1)] = true := by decide +kernel
theorem dX1_layPiece_0 : decode cX1_layPiece 0 = .ok (.aload_n 0, 1) := kq.at kqdX1_layPiece_0 0 rfl
theorem dX1_layPiece_1 : decode cX1_layPiece 1 = .ok (.getfield 18, 3) := kq.at kqdX1_layPiece_0 1 rfl
theorem dX1_layPiece_4 : decode cX1_layPiece 4 = .ok (.sipush 150, 3) := kq.at kqdX1_layPiece_0 2 rfl
theorem dX1_layPiece_7 : decode cX1_layPiece 7 = .ok (.if_icmp .lt 4, 3) := kq.at kqdX1_layPiece_0 3 rfl
theorem dX1_layPiece_10 : decode cX1_layPiece 10 = .ok (.return_, 1) := kq.at kqdX1_layPiece_0 4 rfl
theorem dX1_layPiece_11 : decode cX1_layPiece 11 = .ok (.aload_n 0, 1) := kq.at kqdX1_layPiece_0 5 rfl
theorem dX1_layPiece_12 : decode cX1_layPiece 12 = .ok (.getfield 9, 3) := kq.at kqdX1_layPiece_0 6 rfl
theorem dX1_layPiece_15 : decode cX1_layPiece 15 = .ok (.aload_n 0, 1) := kq.at kqdX1_layPiece_0 7 rfl
theorem dX1_layPiece_16 : decode cX1_layPiece 16 = .ok (.getfield 18, 3) := kq.at kqdX1_layPiece_0 8 rfl
theorem dX1_layPiece_19 : decode cX1_layPiece 19 = .ok (.iload_n 2, 1) := kq.at kqdX1_layPiece_0 9 rfl
theorem dX1_layPiece_20 : decode cX1_layPiece 20 = .ok (.iastore, 1) := kq.at kqdX1_layPiece_0 10 rfl
theorem dX1_layPiece_21 : decode cX1_layPiece 21 = .ok (.aload_n 0, 1) := kq.at kqdX1_layPiece_0 11 rfl
theorem dX1_layPiece_22 : decode cX1_layPiece 22 = .ok (.getfield 31, 3) := kq.at kqdX1_layPiece_0 12 rfl
theorem dX1_layPiece_25 : decode cX1_layPiece 25 = .ok (.iconst 1, 1) := kq.at kqdX1_layPiece_0 13 rfl
theorem dX1_layPiece_26 : decode cX1_layPiece 26 = .ok (.isub, 1) := kq.at kqdX1_layPiece_0 14 rfl
theorem dX1_layPiece_27 : decode cX1_layPiece 27 = .ok (.istore 4, 2) := kq.at kqdX1_layPiece_0 15 rfl
theorem dX1_layPiece_29 : decode cX1_layPiece 29 = .ok (.iload 4, 2) := kq.at kqdX1_layPiece_0 16 rfl
theorem dX1_layPiece_31 : decode cX1_layPiece 31 = .ok (.ifCond .lt 48, 3) := kq.at kqdX1_layPiece_0 17 rfl
theorem dX1_layPiece_34 : decode cX1_layPiece 34 = .ok (.aload_n 0, 1) := kq.at kqdX1_layPiece_0 18 rfl
theorem dX1_layPiece_35 : decode cX1_layPiece 35 = .ok (.getfield 25, 3) := kq.at kqdX1_layPiece_0 19 rfl
theorem dX1_layPiece_38 : decode cX1_layPiece 38 = .ok (.iload 4, 2) := kq.at kqdX1_layPiece_0 20 rfl
theorem dX1_layPiece_40 : decode cX1_layPiece 40 = .ok (.iaload, 1) := kq.at kqdX1_layPiece_0 21 rfl
theorem dX1_layPiece_41 : decode cX1_layPiece 41 = .ok (.iconst 1, 1) := kq.at kqdX1_layPiece_0 22 rfl
theorem dX1_layPiece_42 : decode cX1_layPiece 42 = .ok (.iadd, 1) := kq.at kqdX1_layPiece_0 23 rfl
theorem kqdX1_layPiece_43 : kq cX1_layPiece [(43, .iload_n 2, 1), (44, .iadd, 1), (45, .aload_n 0, 1), (46, .getfield 34, 3), (49, .if_icmp .gt 30, 3), (52, .aload_n 0, 1), (53, .getfield 25, 3), (56, .iload 4, 2), (58, .dup2, 1), (59, .iaload, 1), (60, .iconst 1, 1), (61, .iload_n 2, 1), (62, .iadd, 1), (63, .iadd, 1), (64, .iastore, 1), (65, .aload_n 0, 1), (66, .getfield 15, 3), (69, .aload_n 0, 1), (70, .getfield 18, 3), (73, .iload 4, 2), (75, .iastore, 1), (76, .goto 23, 3), (79, .aload_n 0, 1), (80, .getfield 15, 3)] = true := by decide +kernel
theorem dX1_layPiece_43 : decode cX1_layPiece 43 = .ok (.iload_n 2, 1) := kq.at kqdX1_layPiece_43 0 rfl
theorem dX1_layPiece_44 : decode cX1_layPiece 44 = .ok (.iadd, 1) := kq.at kqdX1_layPiece_43 1 rfl
theorem dX1_layPiece_45 : decode cX1_layPiece 45 = .ok (.aload_n 0, 1) := kq.at kqdX1_layPiece_43 2 rfl
theorem dX1_layPiece_46 : decode cX1_layPiece 46 = .ok (.getfield 34, 3) := kq.at kqdX1_layPiece_43 3 rfl
theorem dX1_layPiece_49 : decode cX1_layPiece 49 = .ok (.if_icmp .gt 30, 3) := kq.at kqdX1_layPiece_43 4 rfl
theorem dX1_layPiece_52 : decode cX1_layPiece 52 = .ok (.aload_n 0, 1) := kq.at kqdX1_layPiece_43 5 rfl
theorem dX1_layPiece_53 : decode cX1_layPiece 53 = .ok (.getfield 25, 3) := kq.at kqdX1_layPiece_43 6 rfl
theorem dX1_layPiece_56 : decode cX1_layPiece 56 = .ok (.iload 4, 2) := kq.at kqdX1_layPiece_43 7 rfl
theorem dX1_layPiece_58 : decode cX1_layPiece 58 = .ok (.dup2, 1) := kq.at kqdX1_layPiece_43 8 rfl
theorem dX1_layPiece_59 : decode cX1_layPiece 59 = .ok (.iaload, 1) := kq.at kqdX1_layPiece_43 9 rfl
theorem dX1_layPiece_60 : decode cX1_layPiece 60 = .ok (.iconst 1, 1) := kq.at kqdX1_layPiece_43 10 rfl
theorem dX1_layPiece_61 : decode cX1_layPiece 61 = .ok (.iload_n 2, 1) := kq.at kqdX1_layPiece_43 11 rfl
theorem dX1_layPiece_62 : decode cX1_layPiece 62 = .ok (.iadd, 1) := kq.at kqdX1_layPiece_43 12 rfl
theorem dX1_layPiece_63 : decode cX1_layPiece 63 = .ok (.iadd, 1) := kq.at kqdX1_layPiece_43 13 rfl
theorem dX1_layPiece_64 : decode cX1_layPiece 64 = .ok (.iastore, 1) := kq.at kqdX1_layPiece_43 14 rfl
theorem dX1_layPiece_65 : decode cX1_layPiece 65 = .ok (.aload_n 0, 1) := kq.at kqdX1_layPiece_43 15 rfl
theorem dX1_layPiece_66 : decode cX1_layPiece 66 = .ok (.getfield 15, 3) := kq.at kqdX1_layPiece_43 16 rfl
theorem dX1_layPiece_69 : decode cX1_layPiece 69 = .ok (.aload_n 0, 1) := kq.at kqdX1_layPiece_43 17 rfl
theorem dX1_layPiece_70 : decode cX1_layPiece 70 = .ok (.getfield 18, 3) := kq.at kqdX1_layPiece_43 18 rfl
theorem dX1_layPiece_73 : decode cX1_layPiece 73 = .ok (.iload 4, 2) := kq.at kqdX1_layPiece_43 19 rfl
theorem dX1_layPiece_75 : decode cX1_layPiece 75 = .ok (.iastore, 1) := kq.at kqdX1_layPiece_43 20 rfl
theorem dX1_layPiece_76 : decode cX1_layPiece 76 = .ok (.goto 23, 3) := kq.at kqdX1_layPiece_43 21 rfl
theorem dX1_layPiece_79 : decode cX1_layPiece 79 = .ok (.aload_n 0, 1) := kq.at kqdX1_layPiece_43 22 rfl
theorem dX1_layPiece_80 : decode cX1_layPiece 80 = .ok (.getfield 15, 3) := kq.at kqdX1_layPiece_43 23 rfl
theorem kqdX1_layPiece_83 : kq cX1_layPiece [(83, .aload_n 0, 1), (84, .getfield 18, 3), (87, .aload_n 0, 1), (88, .getfield 31, 3), (91, .iastore, 1), (92, .aload_n 0, 1), (93, .iload_n 1, 1), (94, .iload_n 2, 1), (95, .iload_n 3, 1), (96, .invokevirtual 57, 3), (99, .aload_n 0, 1), (100, .dup, 1), (101, .getfield 18, 3), (104, .iconst 1, 1), (105, .iadd, 1), (106, .putfield 18, 3), (109, .return_, 1)] = true := by decide +kernel
theorem dX1_layPiece_83 : decode cX1_layPiece 83 = .ok (.aload_n 0, 1) := kq.at kqdX1_layPiece_83 0 rfl
theorem dX1_layPiece_84 : decode cX1_layPiece 84 = .ok (.getfield 18, 3) := kq.at kqdX1_layPiece_83 1 rfl
theorem dX1_layPiece_87 : decode cX1_layPiece 87 = .ok (.aload_n 0, 1) := kq.at kqdX1_layPiece_83 2 rfl
theorem dX1_layPiece_88 : decode cX1_layPiece 88 = .ok (.getfield 31, 3) := kq.at kqdX1_layPiece_83 3 rfl
theorem dX1_layPiece_91 : decode cX1_layPiece 91 = .ok (.iastore, 1) := kq.at kqdX1_layPiece_83 4 rfl
theorem dX1_layPiece_92 : decode cX1_layPiece 92 = .ok (.aload_n 0, 1) := kq.at kqdX1_layPiece_83 5 rfl
theorem dX1_layPiece_93 : decode cX1_layPiece 93 = .ok (.iload_n 1, 1) := kq.at kqdX1_layPiece_83 6 rfl
theorem dX1_layPiece_94 : decode cX1_layPiece 94 = .ok (.iload_n 2, 1) := kq.at kqdX1_layPiece_83 7 rfl
theorem dX1_layPiece_95 : decode cX1_layPiece 95 = .ok (.iload_n 3, 1) := kq.at kqdX1_layPiece_83 8 rfl
theorem dX1_layPiece_96 : decode cX1_layPiece 96 = .ok (.invokevirtual 57, 3) := kq.at kqdX1_layPiece_83 9 rfl
theorem dX1_layPiece_99 : decode cX1_layPiece 99 = .ok (.aload_n 0, 1) := kq.at kqdX1_layPiece_83 10 rfl
theorem dX1_layPiece_100 : decode cX1_layPiece 100 = .ok (.dup, 1) := kq.at kqdX1_layPiece_83 11 rfl
theorem dX1_layPiece_101 : decode cX1_layPiece 101 = .ok (.getfield 18, 3) := kq.at kqdX1_layPiece_83 12 rfl
theorem dX1_layPiece_104 : decode cX1_layPiece 104 = .ok (.iconst 1, 1) := kq.at kqdX1_layPiece_83 13 rfl
theorem dX1_layPiece_105 : decode cX1_layPiece 105 = .ok (.iadd, 1) := kq.at kqdX1_layPiece_83 14 rfl
theorem dX1_layPiece_106 : decode cX1_layPiece 106 = .ok (.putfield 18, 3) := kq.at kqdX1_layPiece_83 15 rfl
theorem dX1_layPiece_109 : decode cX1_layPiece 109 = .ok (.return_, 1) := kq.at kqdX1_layPiece_83 16 rfl
theorem kqdX1_layLines_0 : kq cX1_layLines [(0, .iconst 1, 1), (1, .iload_n 3, 1), (2, .ifCond .eq 12, 3), (5, .aload_n 0, 1), (6, .getfield 34, 3), (9, .iconst 1, 1), (10, .isub, 1), (11, .goto 7, 3), (14, .aload_n 0, 1), (15, .getfield 34, 3), (18, .invokestatic 60, 3), (21, .istore 4, 2), (23, .iload_n 1, 1), (24, .istore 5, 2), (26, .iload_n 2, 1), (27, .istore 6, 2), (29, .iload 6, 2), (31, .aload_n 0, 1), (32, .getfield 34, 3), (35, .if_icmp .le 37, 3), (38, .aload_n 0, 1), (39, .iload 5, 2), (41, .iload 4, 2), (43, .iload_n 3, 1)] = true := by decide +kernel
theorem dX1_layLines_0 : decode cX1_layLines 0 = .ok (.iconst 1, 1) := kq.at kqdX1_layLines_0 0 rfl
theorem dX1_layLines_1 : decode cX1_layLines 1 = .ok (.iload_n 3, 1) := kq.at kqdX1_layLines_0 1 rfl
theorem dX1_layLines_2 : decode cX1_layLines 2 = .ok (.ifCond .eq 12, 3) := kq.at kqdX1_layLines_0 2 rfl
theorem dX1_layLines_5 : decode cX1_layLines 5 = .ok (.aload_n 0, 1) := kq.at kqdX1_layLines_0 3 rfl
theorem dX1_layLines_6 : decode cX1_layLines 6 = .ok (.getfield 34, 3) := kq.at kqdX1_layLines_0 4 rfl
theorem dX1_layLines_9 : decode cX1_layLines 9 = .ok (.iconst 1, 1) := kq.at kqdX1_layLines_0 5 rfl
theorem dX1_layLines_10 : decode cX1_layLines 10 = .ok (.isub, 1) := kq.at kqdX1_layLines_0 6 rfl
theorem dX1_layLines_11 : decode cX1_layLines 11 = .ok (.goto 7, 3) := kq.at kqdX1_layLines_0 7 rfl
theorem dX1_layLines_14 : decode cX1_layLines 14 = .ok (.aload_n 0, 1) := kq.at kqdX1_layLines_0 8 rfl
theorem dX1_layLines_15 : decode cX1_layLines 15 = .ok (.getfield 34, 3) := kq.at kqdX1_layLines_0 9 rfl
theorem dX1_layLines_18 : decode cX1_layLines 18 = .ok (.invokestatic 60, 3) := kq.at kqdX1_layLines_0 10 rfl
theorem dX1_layLines_21 : decode cX1_layLines 21 = .ok (.istore 4, 2) := kq.at kqdX1_layLines_0 11 rfl
theorem dX1_layLines_23 : decode cX1_layLines 23 = .ok (.iload_n 1, 1) := kq.at kqdX1_layLines_0 12 rfl
theorem dX1_layLines_24 : decode cX1_layLines 24 = .ok (.istore 5, 2) := kq.at kqdX1_layLines_0 13 rfl
theorem dX1_layLines_26 : decode cX1_layLines 26 = .ok (.iload_n 2, 1) := kq.at kqdX1_layLines_0 14 rfl
theorem dX1_layLines_27 : decode cX1_layLines 27 = .ok (.istore 6, 2) := kq.at kqdX1_layLines_0 15 rfl
theorem dX1_layLines_29 : decode cX1_layLines 29 = .ok (.iload 6, 2) := kq.at kqdX1_layLines_0 16 rfl
theorem dX1_layLines_31 : decode cX1_layLines 31 = .ok (.aload_n 0, 1) := kq.at kqdX1_layLines_0 17 rfl
theorem dX1_layLines_32 : decode cX1_layLines 32 = .ok (.getfield 34, 3) := kq.at kqdX1_layLines_0 18 rfl
theorem dX1_layLines_35 : decode cX1_layLines 35 = .ok (.if_icmp .le 37, 3) := kq.at kqdX1_layLines_0 19 rfl
theorem dX1_layLines_38 : decode cX1_layLines 38 = .ok (.aload_n 0, 1) := kq.at kqdX1_layLines_0 20 rfl
theorem dX1_layLines_39 : decode cX1_layLines 39 = .ok (.iload 5, 2) := kq.at kqdX1_layLines_0 21 rfl
theorem dX1_layLines_41 : decode cX1_layLines 41 = .ok (.iload 4, 2) := kq.at kqdX1_layLines_0 22 rfl
theorem dX1_layLines_43 : decode cX1_layLines 43 = .ok (.iload_n 3, 1) := kq.at kqdX1_layLines_0 23 rfl
theorem kqdX1_layLines_44 : kq cX1_layLines [(44, .ifCond .eq 7, 3), (47, .iconst 1, 1), (48, .goto 4, 3), (51, .iconst 0, 1), (52, .invokevirtual 66, 3), (55, .iload 5, 2), (57, .iload 4, 2), (59, .iadd, 1), (60, .istore 5, 2), (62, .iload 6, 2), (64, .iload 4, 2), (66, .isub, 1), (67, .istore 6, 2), (69, .goto (-40), 3), (72, .aload_n 0, 1), (73, .iload 5, 2), (75, .iload 6, 2), (77, .iconst 0, 1), (78, .invokevirtual 66, 3), (81, .return_, 1)] = true := by decide +kernel
theorem dX1_layLines_44 : decode cX1_layLines 44 = .ok (.ifCond .eq 7, 3) := kq.at kqdX1_layLines_44 0 rfl
theorem dX1_layLines_47 : decode cX1_layLines 47 = .ok (.iconst 1, 1) := kq.at kqdX1_layLines_44 1 rfl
theorem dX1_layLines_48 : decode cX1_layLines 48 = .ok (.goto 4, 3) := kq.at kqdX1_layLines_44 2 rfl
theorem dX1_layLines_51 : decode cX1_layLines 51 = .ok (.iconst 0, 1) := kq.at kqdX1_layLines_44 3 rfl
theorem dX1_layLines_52 : decode cX1_layLines 52 = .ok (.invokevirtual 66, 3) := kq.at kqdX1_layLines_44 4 rfl
theorem dX1_layLines_55 : decode cX1_layLines 55 = .ok (.iload 5, 2) := kq.at kqdX1_layLines_44 5 rfl
theorem dX1_layLines_57 : decode cX1_layLines 57 = .ok (.iload 4, 2) := kq.at kqdX1_layLines_44 6 rfl
theorem dX1_layLines_59 : decode cX1_layLines 59 = .ok (.iadd, 1) := kq.at kqdX1_layLines_44 7 rfl
theorem dX1_layLines_60 : decode cX1_layLines 60 = .ok (.istore 5, 2) := kq.at kqdX1_layLines_44 8 rfl
theorem dX1_layLines_62 : decode cX1_layLines 62 = .ok (.iload 6, 2) := kq.at kqdX1_layLines_44 9 rfl
theorem dX1_layLines_64 : decode cX1_layLines 64 = .ok (.iload 4, 2) := kq.at kqdX1_layLines_44 10 rfl
theorem dX1_layLines_66 : decode cX1_layLines 66 = .ok (.isub, 1) := kq.at kqdX1_layLines_44 11 rfl
theorem dX1_layLines_67 : decode cX1_layLines 67 = .ok (.istore 6, 2) := kq.at kqdX1_layLines_44 12 rfl
theorem dX1_layLines_69 : decode cX1_layLines 69 = .ok (.goto (-40), 3) := kq.at kqdX1_layLines_44 13 rfl
theorem dX1_layLines_72 : decode cX1_layLines 72 = .ok (.aload_n 0, 1) := kq.at kqdX1_layLines_44 14 rfl
theorem dX1_layLines_73 : decode cX1_layLines 73 = .ok (.iload 5, 2) := kq.at kqdX1_layLines_44 15 rfl
theorem dX1_layLines_75 : decode cX1_layLines 75 = .ok (.iload 6, 2) := kq.at kqdX1_layLines_44 16 rfl
theorem dX1_layLines_77 : decode cX1_layLines 77 = .ok (.iconst 0, 1) := kq.at kqdX1_layLines_44 17 rfl
theorem dX1_layLines_78 : decode cX1_layLines 78 = .ok (.invokevirtual 66, 3) := kq.at kqdX1_layLines_44 18 rfl
theorem dX1_layLines_81 : decode cX1_layLines 81 = .ok (.return_, 1) := kq.at kqdX1_layLines_44 19 rfl
theorem kqdX1_addLine_0 : kq cX1_addLine [(0, .aload_n 0, 1), (1, .getfield 31, 3), (4, .sipush 550, 3), (7, .if_icmp .ge 43, 3), (10, .aload_n 0, 1), (11, .getfield 22, 3), (14, .aload_n 0, 1), (15, .getfield 31, 3), (18, .iload_n 1, 1), (19, .iastore, 1), (20, .aload_n 0, 1), (21, .getfield 25, 3), (24, .aload_n 0, 1), (25, .getfield 31, 3), (28, .iload_n 2, 1), (29, .iastore, 1), (30, .aload_n 0, 1), (31, .getfield 28, 3), (34, .aload_n 0, 1), (35, .getfield 31, 3), (38, .iload_n 3, 1), (39, .iastore, 1), (40, .aload_n 0, 1), (41, .dup, 1)] = true := by decide +kernel
theorem dX1_addLine_0 : decode cX1_addLine 0 = .ok (.aload_n 0, 1) := kq.at kqdX1_addLine_0 0 rfl
theorem dX1_addLine_1 : decode cX1_addLine 1 = .ok (.getfield 31, 3) := kq.at kqdX1_addLine_0 1 rfl
theorem dX1_addLine_4 : decode cX1_addLine 4 = .ok (.sipush 550, 3) := kq.at kqdX1_addLine_0 2 rfl
theorem dX1_addLine_7 : decode cX1_addLine 7 = .ok (.if_icmp .ge 43, 3) := kq.at kqdX1_addLine_0 3 rfl
theorem dX1_addLine_10 : decode cX1_addLine 10 = .ok (.aload_n 0, 1) := kq.at kqdX1_addLine_0 4 rfl
theorem dX1_addLine_11 : decode cX1_addLine 11 = .ok (.getfield 22, 3) := kq.at kqdX1_addLine_0 5 rfl
theorem dX1_addLine_14 : decode cX1_addLine 14 = .ok (.aload_n 0, 1) := kq.at kqdX1_addLine_0 6 rfl
theorem dX1_addLine_15 : decode cX1_addLine 15 = .ok (.getfield 31, 3) := kq.at kqdX1_addLine_0 7 rfl
theorem dX1_addLine_18 : decode cX1_addLine 18 = .ok (.iload_n 1, 1) := kq.at kqdX1_addLine_0 8 rfl
theorem dX1_addLine_19 : decode cX1_addLine 19 = .ok (.iastore, 1) := kq.at kqdX1_addLine_0 9 rfl
theorem dX1_addLine_20 : decode cX1_addLine 20 = .ok (.aload_n 0, 1) := kq.at kqdX1_addLine_0 10 rfl
theorem dX1_addLine_21 : decode cX1_addLine 21 = .ok (.getfield 25, 3) := kq.at kqdX1_addLine_0 11 rfl
theorem dX1_addLine_24 : decode cX1_addLine 24 = .ok (.aload_n 0, 1) := kq.at kqdX1_addLine_0 12 rfl
theorem dX1_addLine_25 : decode cX1_addLine 25 = .ok (.getfield 31, 3) := kq.at kqdX1_addLine_0 13 rfl
theorem dX1_addLine_28 : decode cX1_addLine 28 = .ok (.iload_n 2, 1) := kq.at kqdX1_addLine_0 14 rfl
theorem dX1_addLine_29 : decode cX1_addLine 29 = .ok (.iastore, 1) := kq.at kqdX1_addLine_0 15 rfl
theorem dX1_addLine_30 : decode cX1_addLine 30 = .ok (.aload_n 0, 1) := kq.at kqdX1_addLine_0 16 rfl
theorem dX1_addLine_31 : decode cX1_addLine 31 = .ok (.getfield 28, 3) := kq.at kqdX1_addLine_0 17 rfl
theorem dX1_addLine_34 : decode cX1_addLine 34 = .ok (.aload_n 0, 1) := kq.at kqdX1_addLine_0 18 rfl
theorem dX1_addLine_35 : decode cX1_addLine 35 = .ok (.getfield 31, 3) := kq.at kqdX1_addLine_0 19 rfl
theorem dX1_addLine_38 : decode cX1_addLine 38 = .ok (.iload_n 3, 1) := kq.at kqdX1_addLine_0 20 rfl
theorem dX1_addLine_39 : decode cX1_addLine 39 = .ok (.iastore, 1) := kq.at kqdX1_addLine_0 21 rfl
theorem dX1_addLine_40 : decode cX1_addLine 40 = .ok (.aload_n 0, 1) := kq.at kqdX1_addLine_0 22 rfl
theorem dX1_addLine_41 : decode cX1_addLine 41 = .ok (.dup, 1) := kq.at kqdX1_addLine_0 23 rfl
theorem kqdX1_addLine_42 : kq cX1_addLine [(42, .getfield 31, 3), (45, .iconst 1, 1), (46, .iadd, 1), (47, .putfield 31, 3), (50, .return_, 1)] = true := by decide +kernel
theorem dX1_addLine_42 : decode cX1_addLine 42 = .ok (.getfield 31, 3) := kq.at kqdX1_addLine_42 0 rfl
theorem dX1_addLine_45 : decode cX1_addLine 45 = .ok (.iconst 1, 1) := kq.at kqdX1_addLine_42 1 rfl
theorem dX1_addLine_46 : decode cX1_addLine 46 = .ok (.iadd, 1) := kq.at kqdX1_addLine_42 2 rfl
theorem dX1_addLine_47 : decode cX1_addLine 47 = .ok (.putfield 31, 3) := kq.at kqdX1_addLine_42 3 rfl
theorem dX1_addLine_50 : decode cX1_addLine 50 = .ok (.return_, 1) := kq.at kqdX1_addLine_42 4 rfl
theorem kqdX1_lengthOf_0 : kq cX1_lengthOf [(0, .aload_n 0, 1), (1, .getfield 25, 3), (4, .iload_n 1, 1), (5, .iaload, 1), (6, .aload_n 0, 1), (7, .getfield 28, 3), (10, .iload_n 1, 1), (11, .iaload, 1), (12, .iadd, 1), (13, .ireturn, 1)] = true := by decide +kernel
theorem dX1_lengthOf_0 : decode cX1_lengthOf 0 = .ok (.aload_n 0, 1) := kq.at kqdX1_lengthOf_0 0 rfl
theorem dX1_lengthOf_1 : decode cX1_lengthOf 1 = .ok (.getfield 25, 3) := kq.at kqdX1_lengthOf_0 1 rfl
theorem dX1_lengthOf_4 : decode cX1_lengthOf 4 = .ok (.iload_n 1, 1) := kq.at kqdX1_lengthOf_0 2 rfl
theorem dX1_lengthOf_5 : decode cX1_lengthOf 5 = .ok (.iaload, 1) := kq.at kqdX1_lengthOf_0 3 rfl
theorem dX1_lengthOf_6 : decode cX1_lengthOf 6 = .ok (.aload_n 0, 1) := kq.at kqdX1_lengthOf_0 4 rfl
theorem dX1_lengthOf_7 : decode cX1_lengthOf 7 = .ok (.getfield 28, 3) := kq.at kqdX1_lengthOf_0 5 rfl
theorem dX1_lengthOf_10 : decode cX1_lengthOf 10 = .ok (.iload_n 1, 1) := kq.at kqdX1_lengthOf_0 6 rfl
theorem dX1_lengthOf_11 : decode cX1_lengthOf 11 = .ok (.iaload, 1) := kq.at kqdX1_lengthOf_0 7 rfl
theorem dX1_lengthOf_12 : decode cX1_lengthOf 12 = .ok (.iadd, 1) := kq.at kqdX1_lengthOf_0 8 rfl
theorem dX1_lengthOf_13 : decode cX1_lengthOf 13 = .ok (.ireturn, 1) := kq.at kqdX1_lengthOf_0 9 rfl
theorem kqdX1_shortBy_0 : kq cX1_shortBy [(0, .aload_n 0, 1), (1, .getfield 34, 3), (4, .aload_n 0, 1), (5, .iload_n 1, 1), (6, .invokevirtual 70, 3), (9, .isub, 1), (10, .ireturn, 1)] = true := by decide +kernel
theorem dX1_shortBy_0 : decode cX1_shortBy 0 = .ok (.aload_n 0, 1) := kq.at kqdX1_shortBy_0 0 rfl
theorem dX1_shortBy_1 : decode cX1_shortBy 1 = .ok (.getfield 34, 3) := kq.at kqdX1_shortBy_0 1 rfl
theorem dX1_shortBy_4 : decode cX1_shortBy 4 = .ok (.aload_n 0, 1) := kq.at kqdX1_shortBy_0 2 rfl
theorem dX1_shortBy_5 : decode cX1_shortBy 5 = .ok (.iload_n 1, 1) := kq.at kqdX1_shortBy_0 3 rfl
theorem dX1_shortBy_6 : decode cX1_shortBy 6 = .ok (.invokevirtual 70, 3) := kq.at kqdX1_shortBy_0 4 rfl
theorem dX1_shortBy_9 : decode cX1_shortBy 9 = .ok (.isub, 1) := kq.at kqdX1_shortBy_0 5 rfl
theorem dX1_shortBy_10 : decode cX1_shortBy 10 = .ok (.ireturn, 1) := kq.at kqdX1_shortBy_0 6 rfl
theorem kqdX1_hyphenCount_0 : kq cX1_hyphenCount [(0, .iconst 0, 1), (1, .istore_n 1, 1), (2, .iconst 0, 1), (3, .istore_n 2, 1), (4, .iload_n 2, 1), (5, .aload_n 0, 1), (6, .getfield 31, 3), (9, .if_icmp .ge 18, 3), (12, .iload_n 1, 1), (13, .aload_n 0, 1), (14, .getfield 28, 3), (17, .iload_n 2, 1), (18, .iaload, 1), (19, .iadd, 1), (20, .istore_n 1, 1), (21, .iinc 2 1, 3), (24, .goto (-20), 3), (27, .iload_n 1, 1), (28, .ireturn, 1)] = true := by decide +kernel
theorem dX1_hyphenCount_0 : decode cX1_hyphenCount 0 = .ok (.iconst 0, 1) := kq.at kqdX1_hyphenCount_0 0 rfl
theorem dX1_hyphenCount_1 : decode cX1_hyphenCount 1 = .ok (.istore_n 1, 1) := kq.at kqdX1_hyphenCount_0 1 rfl
theorem dX1_hyphenCount_2 : decode cX1_hyphenCount 2 = .ok (.iconst 0, 1) := kq.at kqdX1_hyphenCount_0 2 rfl
theorem dX1_hyphenCount_3 : decode cX1_hyphenCount 3 = .ok (.istore_n 2, 1) := kq.at kqdX1_hyphenCount_0 3 rfl
theorem dX1_hyphenCount_4 : decode cX1_hyphenCount 4 = .ok (.iload_n 2, 1) := kq.at kqdX1_hyphenCount_0 4 rfl
theorem dX1_hyphenCount_5 : decode cX1_hyphenCount 5 = .ok (.aload_n 0, 1) := kq.at kqdX1_hyphenCount_0 5 rfl
theorem dX1_hyphenCount_6 : decode cX1_hyphenCount 6 = .ok (.getfield 31, 3) := kq.at kqdX1_hyphenCount_0 6 rfl
theorem dX1_hyphenCount_9 : decode cX1_hyphenCount 9 = .ok (.if_icmp .ge 18, 3) := kq.at kqdX1_hyphenCount_0 7 rfl
theorem dX1_hyphenCount_12 : decode cX1_hyphenCount 12 = .ok (.iload_n 1, 1) := kq.at kqdX1_hyphenCount_0 8 rfl
theorem dX1_hyphenCount_13 : decode cX1_hyphenCount 13 = .ok (.aload_n 0, 1) := kq.at kqdX1_hyphenCount_0 9 rfl
theorem dX1_hyphenCount_14 : decode cX1_hyphenCount 14 = .ok (.getfield 28, 3) := kq.at kqdX1_hyphenCount_0 10 rfl
theorem dX1_hyphenCount_17 : decode cX1_hyphenCount 17 = .ok (.iload_n 2, 1) := kq.at kqdX1_hyphenCount_0 11 rfl
theorem dX1_hyphenCount_18 : decode cX1_hyphenCount 18 = .ok (.iaload, 1) := kq.at kqdX1_hyphenCount_0 12 rfl
theorem dX1_hyphenCount_19 : decode cX1_hyphenCount 19 = .ok (.iadd, 1) := kq.at kqdX1_hyphenCount_0 13 rfl
theorem dX1_hyphenCount_20 : decode cX1_hyphenCount 20 = .ok (.istore_n 1, 1) := kq.at kqdX1_hyphenCount_0 14 rfl
theorem dX1_hyphenCount_21 : decode cX1_hyphenCount 21 = .ok (.iinc 2 1, 3) := kq.at kqdX1_hyphenCount_0 15 rfl
theorem dX1_hyphenCount_24 : decode cX1_hyphenCount 24 = .ok (.goto (-20), 3) := kq.at kqdX1_hyphenCount_0 16 rfl
theorem dX1_hyphenCount_27 : decode cX1_hyphenCount 27 = .ok (.iload_n 1, 1) := kq.at kqdX1_hyphenCount_0 17 rfl
theorem dX1_hyphenCount_28 : decode cX1_hyphenCount 28 = .ok (.ireturn, 1) := kq.at kqdX1_hyphenCount_0 18 rfl
theorem kqdX1_longestPiece_0 : kq cX1_longestPiece [(0, .iconst 0, 1), (1, .istore_n 1, 1), (2, .iconst 1, 1), (3, .istore_n 2, 1), (4, .iload_n 2, 1), (5, .aload_n 0, 1), (6, .getfield 18, 3), (9, .if_icmp .ge 26, 3), (12, .aload_n 0, 1), (13, .getfield 9, 3), (16, .iload_n 2, 1), (17, .iaload, 1), (18, .aload_n 0, 1), (19, .getfield 9, 3), (22, .iload_n 1, 1), (23, .iaload, 1), (24, .if_icmp .le 5, 3), (27, .iload_n 2, 1), (28, .istore_n 1, 1), (29, .iinc 2 1, 3), (32, .goto (-28), 3), (35, .iload_n 1, 1), (36, .ireturn, 1)] = true := by decide +kernel
theorem dX1_longestPiece_0 : decode cX1_longestPiece 0 = .ok (.iconst 0, 1) := kq.at kqdX1_longestPiece_0 0 rfl
theorem dX1_longestPiece_1 : decode cX1_longestPiece 1 = .ok (.istore_n 1, 1) := kq.at kqdX1_longestPiece_0 1 rfl
theorem dX1_longestPiece_2 : decode cX1_longestPiece 2 = .ok (.iconst 1, 1) := kq.at kqdX1_longestPiece_0 2 rfl
theorem dX1_longestPiece_3 : decode cX1_longestPiece 3 = .ok (.istore_n 2, 1) := kq.at kqdX1_longestPiece_0 3 rfl
theorem dX1_longestPiece_4 : decode cX1_longestPiece 4 = .ok (.iload_n 2, 1) := kq.at kqdX1_longestPiece_0 4 rfl
theorem dX1_longestPiece_5 : decode cX1_longestPiece 5 = .ok (.aload_n 0, 1) := kq.at kqdX1_longestPiece_0 5 rfl
theorem dX1_longestPiece_6 : decode cX1_longestPiece 6 = .ok (.getfield 18, 3) := kq.at kqdX1_longestPiece_0 6 rfl
theorem dX1_longestPiece_9 : decode cX1_longestPiece 9 = .ok (.if_icmp .ge 26, 3) := kq.at kqdX1_longestPiece_0 7 rfl
theorem dX1_longestPiece_12 : decode cX1_longestPiece 12 = .ok (.aload_n 0, 1) := kq.at kqdX1_longestPiece_0 8 rfl
theorem dX1_longestPiece_13 : decode cX1_longestPiece 13 = .ok (.getfield 9, 3) := kq.at kqdX1_longestPiece_0 9 rfl
theorem dX1_longestPiece_16 : decode cX1_longestPiece 16 = .ok (.iload_n 2, 1) := kq.at kqdX1_longestPiece_0 10 rfl
theorem dX1_longestPiece_17 : decode cX1_longestPiece 17 = .ok (.iaload, 1) := kq.at kqdX1_longestPiece_0 11 rfl
theorem dX1_longestPiece_18 : decode cX1_longestPiece 18 = .ok (.aload_n 0, 1) := kq.at kqdX1_longestPiece_0 12 rfl
theorem dX1_longestPiece_19 : decode cX1_longestPiece 19 = .ok (.getfield 9, 3) := kq.at kqdX1_longestPiece_0 13 rfl
theorem dX1_longestPiece_22 : decode cX1_longestPiece 22 = .ok (.iload_n 1, 1) := kq.at kqdX1_longestPiece_0 14 rfl
theorem dX1_longestPiece_23 : decode cX1_longestPiece 23 = .ok (.iaload, 1) := kq.at kqdX1_longestPiece_0 15 rfl
theorem dX1_longestPiece_24 : decode cX1_longestPiece 24 = .ok (.if_icmp .le 5, 3) := kq.at kqdX1_longestPiece_0 16 rfl
theorem dX1_longestPiece_27 : decode cX1_longestPiece 27 = .ok (.iload_n 2, 1) := kq.at kqdX1_longestPiece_0 17 rfl
theorem dX1_longestPiece_28 : decode cX1_longestPiece 28 = .ok (.istore_n 1, 1) := kq.at kqdX1_longestPiece_0 18 rfl
theorem dX1_longestPiece_29 : decode cX1_longestPiece 29 = .ok (.iinc 2 1, 3) := kq.at kqdX1_longestPiece_0 19 rfl
theorem dX1_longestPiece_32 : decode cX1_longestPiece 32 = .ok (.goto (-28), 3) := kq.at kqdX1_longestPiece_0 20 rfl
theorem dX1_longestPiece_35 : decode cX1_longestPiece 35 = .ok (.iload_n 1, 1) := kq.at kqdX1_longestPiece_0 21 rfl
theorem dX1_longestPiece_36 : decode cX1_longestPiece 36 = .ok (.ireturn, 1) := kq.at kqdX1_longestPiece_0 22 rfl
theorem kqdX1_raggedness_0 : kq cX1_raggedness [(0, .iconst 0, 1), (1, .istore_n 1, 1), (2, .iconst 0, 1), (3, .istore_n 2, 1), (4, .iload_n 2, 1), (5, .aload_n 0, 1), (6, .getfield 31, 3), (9, .iconst 1, 1), (10, .isub, 1), (11, .if_icmp .ge 23, 3), (14, .iload_n 1, 1), (15, .aload_n 0, 1), (16, .iload_n 2, 1), (17, .invokevirtual 74, 3), (20, .aload_n 0, 1), (21, .iload_n 2, 1), (22, .invokevirtual 74, 3), (25, .imul, 1), (26, .iadd, 1), (27, .istore_n 1, 1), (28, .iinc 2 1, 3), (31, .goto (-27), 3), (34, .iload_n 1, 1), (35, .ireturn, 1)] = true := by decide +kernel
theorem dX1_raggedness_0 : decode cX1_raggedness 0 = .ok (.iconst 0, 1) := kq.at kqdX1_raggedness_0 0 rfl
theorem dX1_raggedness_1 : decode cX1_raggedness 1 = .ok (.istore_n 1, 1) := kq.at kqdX1_raggedness_0 1 rfl
theorem dX1_raggedness_2 : decode cX1_raggedness 2 = .ok (.iconst 0, 1) := kq.at kqdX1_raggedness_0 2 rfl
theorem dX1_raggedness_3 : decode cX1_raggedness 3 = .ok (.istore_n 2, 1) := kq.at kqdX1_raggedness_0 3 rfl
theorem dX1_raggedness_4 : decode cX1_raggedness 4 = .ok (.iload_n 2, 1) := kq.at kqdX1_raggedness_0 4 rfl
theorem dX1_raggedness_5 : decode cX1_raggedness 5 = .ok (.aload_n 0, 1) := kq.at kqdX1_raggedness_0 5 rfl
theorem dX1_raggedness_6 : decode cX1_raggedness 6 = .ok (.getfield 31, 3) := kq.at kqdX1_raggedness_0 6 rfl
theorem dX1_raggedness_9 : decode cX1_raggedness 9 = .ok (.iconst 1, 1) := kq.at kqdX1_raggedness_0 7 rfl
theorem dX1_raggedness_10 : decode cX1_raggedness 10 = .ok (.isub, 1) := kq.at kqdX1_raggedness_0 8 rfl
theorem dX1_raggedness_11 : decode cX1_raggedness 11 = .ok (.if_icmp .ge 23, 3) := kq.at kqdX1_raggedness_0 9 rfl
theorem dX1_raggedness_14 : decode cX1_raggedness 14 = .ok (.iload_n 1, 1) := kq.at kqdX1_raggedness_0 10 rfl
theorem dX1_raggedness_15 : decode cX1_raggedness 15 = .ok (.aload_n 0, 1) := kq.at kqdX1_raggedness_0 11 rfl
theorem dX1_raggedness_16 : decode cX1_raggedness 16 = .ok (.iload_n 2, 1) := kq.at kqdX1_raggedness_0 12 rfl
theorem dX1_raggedness_17 : decode cX1_raggedness 17 = .ok (.invokevirtual 74, 3) := kq.at kqdX1_raggedness_0 13 rfl
theorem dX1_raggedness_20 : decode cX1_raggedness 20 = .ok (.aload_n 0, 1) := kq.at kqdX1_raggedness_0 14 rfl
theorem dX1_raggedness_21 : decode cX1_raggedness 21 = .ok (.iload_n 2, 1) := kq.at kqdX1_raggedness_0 15 rfl
theorem dX1_raggedness_22 : decode cX1_raggedness 22 = .ok (.invokevirtual 74, 3) := kq.at kqdX1_raggedness_0 16 rfl
theorem dX1_raggedness_25 : decode cX1_raggedness 25 = .ok (.imul, 1) := kq.at kqdX1_raggedness_0 17 rfl
theorem dX1_raggedness_26 : decode cX1_raggedness 26 = .ok (.iadd, 1) := kq.at kqdX1_raggedness_0 18 rfl
theorem dX1_raggedness_27 : decode cX1_raggedness 27 = .ok (.istore_n 1, 1) := kq.at kqdX1_raggedness_0 19 rfl
theorem dX1_raggedness_28 : decode cX1_raggedness 28 = .ok (.iinc 2 1, 3) := kq.at kqdX1_raggedness_0 20 rfl
theorem dX1_raggedness_31 : decode cX1_raggedness 31 = .ok (.goto (-27), 3) := kq.at kqdX1_raggedness_0 21 rfl
theorem dX1_raggedness_34 : decode cX1_raggedness 34 = .ok (.iload_n 1, 1) := kq.at kqdX1_raggedness_0 22 rfl
theorem dX1_raggedness_35 : decode cX1_raggedness 35 = .ok (.ireturn, 1) := kq.at kqdX1_raggedness_0 23 rfl
theorem kqdX1_leastRaggedness_0 : kq cX1_leastRaggedness [(0, .aload_n 0, 1), (1, .getfield 37, 3), (4, .aload_n 0, 1), (5, .getfield 18, 3), (8, .iconst 0, 1), (9, .iastore, 1), (10, .aload_n 0, 1), (11, .getfield 18, 3), (14, .iconst 1, 1), (15, .isub, 1), (16, .istore_n 1, 1), (17, .iload_n 1, 1), (18, .ifCond .lt 35, 3), (21, .aload_n 0, 1), (22, .getfield 9, 3), (25, .iload_n 1, 1), (26, .iaload, 1), (27, .aload_n 0, 1), (28, .getfield 34, 3), (31, .if_icmp .le 5, 3), (34, .iconst (-1), 1), (35, .ireturn, 1), (36, .aload_n 0, 1), (37, .getfield 37, 3)] = true := by decide +kernel
theorem dX1_leastRaggedness_0 : decode cX1_leastRaggedness 0 = .ok (.aload_n 0, 1) := kq.at kqdX1_leastRaggedness_0 0 rfl
theorem dX1_leastRaggedness_1 : decode cX1_leastRaggedness 1 = .ok (.getfield 37, 3) := kq.at kqdX1_leastRaggedness_0 1 rfl
theorem dX1_leastRaggedness_4 : decode cX1_leastRaggedness 4 = .ok (.aload_n 0, 1) := kq.at kqdX1_leastRaggedness_0 2 rfl
theorem dX1_leastRaggedness_5 : decode cX1_leastRaggedness 5 = .ok (.getfield 18, 3) := kq.at kqdX1_leastRaggedness_0 3 rfl
theorem dX1_leastRaggedness_8 : decode cX1_leastRaggedness 8 = .ok (.iconst 0, 1) := kq.at kqdX1_leastRaggedness_0 4 rfl
theorem dX1_leastRaggedness_9 : decode cX1_leastRaggedness 9 = .ok (.iastore, 1) := kq.at kqdX1_leastRaggedness_0 5 rfl
theorem dX1_leastRaggedness_10 : decode cX1_leastRaggedness 10 = .ok (.aload_n 0, 1) := kq.at kqdX1_leastRaggedness_0 6 rfl
theorem dX1_leastRaggedness_11 : decode cX1_leastRaggedness 11 = .ok (.getfield 18, 3) := kq.at kqdX1_leastRaggedness_0 7 rfl
theorem dX1_leastRaggedness_14 : decode cX1_leastRaggedness 14 = .ok (.iconst 1, 1) := kq.at kqdX1_leastRaggedness_0 8 rfl
theorem dX1_leastRaggedness_15 : decode cX1_leastRaggedness 15 = .ok (.isub, 1) := kq.at kqdX1_leastRaggedness_0 9 rfl
theorem dX1_leastRaggedness_16 : decode cX1_leastRaggedness 16 = .ok (.istore_n 1, 1) := kq.at kqdX1_leastRaggedness_0 10 rfl
theorem dX1_leastRaggedness_17 : decode cX1_leastRaggedness 17 = .ok (.iload_n 1, 1) := kq.at kqdX1_leastRaggedness_0 11 rfl
theorem dX1_leastRaggedness_18 : decode cX1_leastRaggedness 18 = .ok (.ifCond .lt 35, 3) := kq.at kqdX1_leastRaggedness_0 12 rfl
theorem dX1_leastRaggedness_21 : decode cX1_leastRaggedness 21 = .ok (.aload_n 0, 1) := kq.at kqdX1_leastRaggedness_0 13 rfl
theorem dX1_leastRaggedness_22 : decode cX1_leastRaggedness 22 = .ok (.getfield 9, 3) := kq.at kqdX1_leastRaggedness_0 14 rfl
theorem dX1_leastRaggedness_25 : decode cX1_leastRaggedness 25 = .ok (.iload_n 1, 1) := kq.at kqdX1_leastRaggedness_0 15 rfl
theorem dX1_leastRaggedness_26 : decode cX1_leastRaggedness 26 = .ok (.iaload, 1) := kq.at kqdX1_leastRaggedness_0 16 rfl
theorem dX1_leastRaggedness_27 : decode cX1_leastRaggedness 27 = .ok (.aload_n 0, 1) := kq.at kqdX1_leastRaggedness_0 17 rfl
theorem dX1_leastRaggedness_28 : decode cX1_leastRaggedness 28 = .ok (.getfield 34, 3) := kq.at kqdX1_leastRaggedness_0 18 rfl
theorem dX1_leastRaggedness_31 : decode cX1_leastRaggedness 31 = .ok (.if_icmp .le 5, 3) := kq.at kqdX1_leastRaggedness_0 19 rfl
theorem dX1_leastRaggedness_34 : decode cX1_leastRaggedness 34 = .ok (.iconst (-1), 1) := kq.at kqdX1_leastRaggedness_0 20 rfl
theorem dX1_leastRaggedness_35 : decode cX1_leastRaggedness 35 = .ok (.ireturn, 1) := kq.at kqdX1_leastRaggedness_0 21 rfl
theorem dX1_leastRaggedness_36 : decode cX1_leastRaggedness 36 = .ok (.aload_n 0, 1) := kq.at kqdX1_leastRaggedness_0 22 rfl
theorem dX1_leastRaggedness_37 : decode cX1_leastRaggedness 37 = .ok (.getfield 37, 3) := kq.at kqdX1_leastRaggedness_0 23 rfl
theorem kqdX1_leastRaggedness_40 : kq cX1_leastRaggedness [(40, .iload_n 1, 1), (41, .aload_n 0, 1), (42, .iload_n 1, 1), (43, .invokevirtual 77, 3), (46, .iastore, 1), (47, .iinc 1 (-1), 3), (50, .goto (-33), 3), (53, .aload_n 0, 1), (54, .getfield 37, 3), (57, .iconst 0, 1), (58, .iaload, 1), (59, .ireturn, 1)] = true := by decide +kernel
theorem dX1_leastRaggedness_40 : decode cX1_leastRaggedness 40 = .ok (.iload_n 1, 1) := kq.at kqdX1_leastRaggedness_40 0 rfl
theorem dX1_leastRaggedness_41 : decode cX1_leastRaggedness 41 = .ok (.aload_n 0, 1) := kq.at kqdX1_leastRaggedness_40 1 rfl
theorem dX1_leastRaggedness_42 : decode cX1_leastRaggedness 42 = .ok (.iload_n 1, 1) := kq.at kqdX1_leastRaggedness_40 2 rfl
theorem dX1_leastRaggedness_43 : decode cX1_leastRaggedness 43 = .ok (.invokevirtual 77, 3) := kq.at kqdX1_leastRaggedness_40 3 rfl
theorem dX1_leastRaggedness_46 : decode cX1_leastRaggedness 46 = .ok (.iastore, 1) := kq.at kqdX1_leastRaggedness_40 4 rfl
theorem dX1_leastRaggedness_47 : decode cX1_leastRaggedness 47 = .ok (.iinc 1 (-1), 3) := kq.at kqdX1_leastRaggedness_40 5 rfl
theorem dX1_leastRaggedness_50 : decode cX1_leastRaggedness 50 = .ok (.goto (-33), 3) := kq.at kqdX1_leastRaggedness_40 6 rfl
theorem dX1_leastRaggedness_53 : decode cX1_leastRaggedness 53 = .ok (.aload_n 0, 1) := kq.at kqdX1_leastRaggedness_40 7 rfl
theorem dX1_leastRaggedness_54 : decode cX1_leastRaggedness 54 = .ok (.getfield 37, 3) := kq.at kqdX1_leastRaggedness_40 8 rfl
theorem dX1_leastRaggedness_57 : decode cX1_leastRaggedness 57 = .ok (.iconst 0, 1) := kq.at kqdX1_leastRaggedness_40 9 rfl
theorem dX1_leastRaggedness_58 : decode cX1_leastRaggedness 58 = .ok (.iaload, 1) := kq.at kqdX1_leastRaggedness_40 10 rfl
theorem dX1_leastRaggedness_59 : decode cX1_leastRaggedness 59 = .ok (.ireturn, 1) := kq.at kqdX1_leastRaggedness_40 11 rfl
theorem kqdX1_leastFrom_0 : kq cX1_leastFrom [(0, .iconst (-1), 1), (1, .istore_n 2, 1), (2, .iconst (-1), 1), (3, .istore_n 3, 1), (4, .iload_n 1, 1), (5, .istore 4, 2), (7, .iload 4, 2), (9, .aload_n 0, 1), (10, .getfield 18, 3), (13, .if_icmp .ge 85, 3), (16, .iload_n 3, 1), (17, .iconst 1, 1), (18, .aload_n 0, 1), (19, .getfield 9, 3), (22, .iload 4, 2), (24, .iaload, 1), (25, .iadd, 1), (26, .iadd, 1), (27, .istore_n 3, 1), (28, .iload_n 3, 1), (29, .aload_n 0, 1), (30, .getfield 34, 3), (33, .if_icmp .le 5, 3), (36, .iload_n 2, 1)] = true := by decide +kernel
theorem dX1_leastFrom_0 : decode cX1_leastFrom 0 = .ok (.iconst (-1), 1) := kq.at kqdX1_leastFrom_0 0 rfl
theorem dX1_leastFrom_1 : decode cX1_leastFrom 1 = .ok (.istore_n 2, 1) := kq.at kqdX1_leastFrom_0 1 rfl
theorem dX1_leastFrom_2 : decode cX1_leastFrom 2 = .ok (.iconst (-1), 1) := kq.at kqdX1_leastFrom_0 2 rfl
theorem dX1_leastFrom_3 : decode cX1_leastFrom 3 = .ok (.istore_n 3, 1) := kq.at kqdX1_leastFrom_0 3 rfl
theorem dX1_leastFrom_4 : decode cX1_leastFrom 4 = .ok (.iload_n 1, 1) := kq.at kqdX1_leastFrom_0 4 rfl
theorem dX1_leastFrom_5 : decode cX1_leastFrom 5 = .ok (.istore 4, 2) := kq.at kqdX1_leastFrom_0 5 rfl
theorem dX1_leastFrom_7 : decode cX1_leastFrom 7 = .ok (.iload 4, 2) := kq.at kqdX1_leastFrom_0 6 rfl
theorem dX1_leastFrom_9 : decode cX1_leastFrom 9 = .ok (.aload_n 0, 1) := kq.at kqdX1_leastFrom_0 7 rfl
theorem dX1_leastFrom_10 : decode cX1_leastFrom 10 = .ok (.getfield 18, 3) := kq.at kqdX1_leastFrom_0 8 rfl
theorem dX1_leastFrom_13 : decode cX1_leastFrom 13 = .ok (.if_icmp .ge 85, 3) := kq.at kqdX1_leastFrom_0 9 rfl
theorem dX1_leastFrom_16 : decode cX1_leastFrom 16 = .ok (.iload_n 3, 1) := kq.at kqdX1_leastFrom_0 10 rfl
theorem dX1_leastFrom_17 : decode cX1_leastFrom 17 = .ok (.iconst 1, 1) := kq.at kqdX1_leastFrom_0 11 rfl
theorem dX1_leastFrom_18 : decode cX1_leastFrom 18 = .ok (.aload_n 0, 1) := kq.at kqdX1_leastFrom_0 12 rfl
theorem dX1_leastFrom_19 : decode cX1_leastFrom 19 = .ok (.getfield 9, 3) := kq.at kqdX1_leastFrom_0 13 rfl
theorem dX1_leastFrom_22 : decode cX1_leastFrom 22 = .ok (.iload 4, 2) := kq.at kqdX1_leastFrom_0 14 rfl
theorem dX1_leastFrom_24 : decode cX1_leastFrom 24 = .ok (.iaload, 1) := kq.at kqdX1_leastFrom_0 15 rfl
theorem dX1_leastFrom_25 : decode cX1_leastFrom 25 = .ok (.iadd, 1) := kq.at kqdX1_leastFrom_0 16 rfl
theorem dX1_leastFrom_26 : decode cX1_leastFrom 26 = .ok (.iadd, 1) := kq.at kqdX1_leastFrom_0 17 rfl
theorem dX1_leastFrom_27 : decode cX1_leastFrom 27 = .ok (.istore_n 3, 1) := kq.at kqdX1_leastFrom_0 18 rfl
theorem dX1_leastFrom_28 : decode cX1_leastFrom 28 = .ok (.iload_n 3, 1) := kq.at kqdX1_leastFrom_0 19 rfl
theorem dX1_leastFrom_29 : decode cX1_leastFrom 29 = .ok (.aload_n 0, 1) := kq.at kqdX1_leastFrom_0 20 rfl
theorem dX1_leastFrom_30 : decode cX1_leastFrom 30 = .ok (.getfield 34, 3) := kq.at kqdX1_leastFrom_0 21 rfl
theorem dX1_leastFrom_33 : decode cX1_leastFrom 33 = .ok (.if_icmp .le 5, 3) := kq.at kqdX1_leastFrom_0 22 rfl
theorem dX1_leastFrom_36 : decode cX1_leastFrom 36 = .ok (.iload_n 2, 1) := kq.at kqdX1_leastFrom_0 23 rfl
theorem kqdX1_leastFrom_37 : kq cX1_leastFrom [(37, .ireturn, 1), (38, .aload_n 0, 1), (39, .getfield 34, 3), (42, .iload_n 3, 1), (43, .isub, 1), (44, .istore 5, 2), (46, .iload 4, 2), (48, .aload_n 0, 1), (49, .getfield 18, 3), (52, .iconst 1, 1), (53, .isub, 1), (54, .if_icmp .ne 7, 3), (57, .iconst 0, 1), (58, .goto 18, 3), (61, .iload 5, 2), (63, .iload 5, 2), (65, .imul, 1), (66, .aload_n 0, 1), (67, .getfield 37, 3), (70, .iload 4, 2), (72, .iconst 1, 1), (73, .iadd, 1), (74, .iaload, 1), (75, .iadd, 1)] = true := by decide +kernel
theorem dX1_leastFrom_37 : decode cX1_leastFrom 37 = .ok (.ireturn, 1) := kq.at kqdX1_leastFrom_37 0 rfl
theorem dX1_leastFrom_38 : decode cX1_leastFrom 38 = .ok (.aload_n 0, 1) := kq.at kqdX1_leastFrom_37 1 rfl
theorem dX1_leastFrom_39 : decode cX1_leastFrom 39 = .ok (.getfield 34, 3) := kq.at kqdX1_leastFrom_37 2 rfl
theorem dX1_leastFrom_42 : decode cX1_leastFrom 42 = .ok (.iload_n 3, 1) := kq.at kqdX1_leastFrom_37 3 rfl
theorem dX1_leastFrom_43 : decode cX1_leastFrom 43 = .ok (.isub, 1) := kq.at kqdX1_leastFrom_37 4 rfl
theorem dX1_leastFrom_44 : decode cX1_leastFrom 44 = .ok (.istore 5, 2) := kq.at kqdX1_leastFrom_37 5 rfl
theorem dX1_leastFrom_46 : decode cX1_leastFrom 46 = .ok (.iload 4, 2) := kq.at kqdX1_leastFrom_37 6 rfl
theorem dX1_leastFrom_48 : decode cX1_leastFrom 48 = .ok (.aload_n 0, 1) := kq.at kqdX1_leastFrom_37 7 rfl
theorem dX1_leastFrom_49 : decode cX1_leastFrom 49 = .ok (.getfield 18, 3) := kq.at kqdX1_leastFrom_37 8 rfl
theorem dX1_leastFrom_52 : decode cX1_leastFrom 52 = .ok (.iconst 1, 1) := kq.at kqdX1_leastFrom_37 9 rfl
theorem dX1_leastFrom_53 : decode cX1_leastFrom 53 = .ok (.isub, 1) := kq.at kqdX1_leastFrom_37 10 rfl
theorem dX1_leastFrom_54 : decode cX1_leastFrom 54 = .ok (.if_icmp .ne 7, 3) := kq.at kqdX1_leastFrom_37 11 rfl
theorem dX1_leastFrom_57 : decode cX1_leastFrom 57 = .ok (.iconst 0, 1) := kq.at kqdX1_leastFrom_37 12 rfl
theorem dX1_leastFrom_58 : decode cX1_leastFrom 58 = .ok (.goto 18, 3) := kq.at kqdX1_leastFrom_37 13 rfl
theorem dX1_leastFrom_61 : decode cX1_leastFrom 61 = .ok (.iload 5, 2) := kq.at kqdX1_leastFrom_37 14 rfl
theorem dX1_leastFrom_63 : decode cX1_leastFrom 63 = .ok (.iload 5, 2) := kq.at kqdX1_leastFrom_37 15 rfl
theorem dX1_leastFrom_65 : decode cX1_leastFrom 65 = .ok (.imul, 1) := kq.at kqdX1_leastFrom_37 16 rfl
theorem dX1_leastFrom_66 : decode cX1_leastFrom 66 = .ok (.aload_n 0, 1) := kq.at kqdX1_leastFrom_37 17 rfl
theorem dX1_leastFrom_67 : decode cX1_leastFrom 67 = .ok (.getfield 37, 3) := kq.at kqdX1_leastFrom_37 18 rfl
theorem dX1_leastFrom_70 : decode cX1_leastFrom 70 = .ok (.iload 4, 2) := kq.at kqdX1_leastFrom_37 19 rfl
theorem dX1_leastFrom_72 : decode cX1_leastFrom 72 = .ok (.iconst 1, 1) := kq.at kqdX1_leastFrom_37 20 rfl
theorem dX1_leastFrom_73 : decode cX1_leastFrom 73 = .ok (.iadd, 1) := kq.at kqdX1_leastFrom_37 21 rfl
theorem dX1_leastFrom_74 : decode cX1_leastFrom 74 = .ok (.iaload, 1) := kq.at kqdX1_leastFrom_37 22 rfl
theorem dX1_leastFrom_75 : decode cX1_leastFrom 75 = .ok (.iadd, 1) := kq.at kqdX1_leastFrom_37 23 rfl
theorem kqdX1_leastFrom_76 : kq cX1_leastFrom [(76, .istore 6, 2), (78, .iload_n 2, 1), (79, .iconst (-1), 1), (80, .if_icmp .eq 9, 3), (83, .iload 6, 2), (85, .iload_n 2, 1), (86, .if_icmp .ge 6, 3), (89, .iload 6, 2), (91, .istore_n 2, 1), (92, .iinc 4 1, 3), (95, .goto (-88), 3), (98, .iload_n 2, 1), (99, .ireturn, 1)] = true := by decide +kernel
theorem dX1_leastFrom_76 : decode cX1_leastFrom 76 = .ok (.istore 6, 2) := kq.at kqdX1_leastFrom_76 0 rfl
theorem dX1_leastFrom_78 : decode cX1_leastFrom 78 = .ok (.iload_n 2, 1) := kq.at kqdX1_leastFrom_76 1 rfl
theorem dX1_leastFrom_79 : decode cX1_leastFrom 79 = .ok (.iconst (-1), 1) := kq.at kqdX1_leastFrom_76 2 rfl
theorem dX1_leastFrom_80 : decode cX1_leastFrom 80 = .ok (.if_icmp .eq 9, 3) := kq.at kqdX1_leastFrom_76 3 rfl
theorem dX1_leastFrom_83 : decode cX1_leastFrom 83 = .ok (.iload 6, 2) := kq.at kqdX1_leastFrom_76 4 rfl
theorem dX1_leastFrom_85 : decode cX1_leastFrom 85 = .ok (.iload_n 2, 1) := kq.at kqdX1_leastFrom_76 5 rfl
theorem dX1_leastFrom_86 : decode cX1_leastFrom 86 = .ok (.if_icmp .ge 6, 3) := kq.at kqdX1_leastFrom_76 6 rfl
theorem dX1_leastFrom_89 : decode cX1_leastFrom 89 = .ok (.iload 6, 2) := kq.at kqdX1_leastFrom_76 7 rfl
theorem dX1_leastFrom_91 : decode cX1_leastFrom 91 = .ok (.istore_n 2, 1) := kq.at kqdX1_leastFrom_76 8 rfl
theorem dX1_leastFrom_92 : decode cX1_leastFrom 92 = .ok (.iinc 4 1, 3) := kq.at kqdX1_leastFrom_76 9 rfl
theorem dX1_leastFrom_95 : decode cX1_leastFrom 95 = .ok (.goto (-88), 3) := kq.at kqdX1_leastFrom_76 10 rfl
theorem dX1_leastFrom_98 : decode cX1_leastFrom 98 = .ok (.iload_n 2, 1) := kq.at kqdX1_leastFrom_76 11 rfl
theorem dX1_leastFrom_99 : decode cX1_leastFrom 99 = .ok (.ireturn, 1) := kq.at kqdX1_leastFrom_76 12 rfl
theorem kqdX2_init_0 : kq cX2_init [(0, .aload_n 0, 1), (1, .invokespecial 1, 3), (4, .aload_n 0, 1), (5, .new 7, 3), (8, .dup, 1), (9, .invokespecial 9, 3), (12, .putfield 10, 3), (15, .aload_n 0, 1), (16, .new 16, 3), (19, .dup, 1), (20, .invokespecial 18, 3), (23, .putfield 19, 3), (26, .aload_n 0, 1), (27, .iconst 0, 1), (28, .putfield 23, 3), (31, .aload_n 0, 1), (32, .iconst 0, 1), (33, .putfield 27, 3), (36, .return_, 1)] = true := by decide +kernel
theorem dX2_init_0 : decode cX2_init 0 = .ok (.aload_n 0, 1) := kq.at kqdX2_init_0 0 rfl
theorem dX2_init_1 : decode cX2_init 1 = .ok (.invokespecial 1, 3) := kq.at kqdX2_init_0 1 rfl
theorem dX2_init_4 : decode cX2_init 4 = .ok (.aload_n 0, 1) := kq.at kqdX2_init_0 2 rfl
theorem dX2_init_5 : decode cX2_init 5 = .ok (.new 7, 3) := kq.at kqdX2_init_0 3 rfl
theorem dX2_init_8 : decode cX2_init 8 = .ok (.dup, 1) := kq.at kqdX2_init_0 4 rfl
theorem dX2_init_9 : decode cX2_init 9 = .ok (.invokespecial 9, 3) := kq.at kqdX2_init_0 5 rfl
theorem dX2_init_12 : decode cX2_init 12 = .ok (.putfield 10, 3) := kq.at kqdX2_init_0 6 rfl
theorem dX2_init_15 : decode cX2_init 15 = .ok (.aload_n 0, 1) := kq.at kqdX2_init_0 7 rfl
theorem dX2_init_16 : decode cX2_init 16 = .ok (.new 16, 3) := kq.at kqdX2_init_0 8 rfl
theorem dX2_init_19 : decode cX2_init 19 = .ok (.dup, 1) := kq.at kqdX2_init_0 9 rfl
theorem dX2_init_20 : decode cX2_init 20 = .ok (.invokespecial 18, 3) := kq.at kqdX2_init_0 10 rfl
theorem dX2_init_23 : decode cX2_init 23 = .ok (.putfield 19, 3) := kq.at kqdX2_init_0 11 rfl
theorem dX2_init_26 : decode cX2_init 26 = .ok (.aload_n 0, 1) := kq.at kqdX2_init_0 12 rfl
theorem dX2_init_27 : decode cX2_init 27 = .ok (.iconst 0, 1) := kq.at kqdX2_init_0 13 rfl
theorem dX2_init_28 : decode cX2_init 28 = .ok (.putfield 23, 3) := kq.at kqdX2_init_0 14 rfl
theorem dX2_init_31 : decode cX2_init 31 = .ok (.aload_n 0, 1) := kq.at kqdX2_init_0 15 rfl
theorem dX2_init_32 : decode cX2_init 32 = .ok (.iconst 0, 1) := kq.at kqdX2_init_0 16 rfl
theorem dX2_init_33 : decode cX2_init 33 = .ok (.putfield 27, 3) := kq.at kqdX2_init_0 17 rfl
theorem dX2_init_36 : decode cX2_init 36 = .ok (.return_, 1) := kq.at kqdX2_init_0 18 rfl
theorem kqdX2_keep_0 : kq cX2_keep [(0, .aload_n 0, 1), (1, .getfield 10, 3), (4, .aload_n 1, 1), (5, .invokevirtual 31, 3), (8, .aload_n 0, 1), (9, .getfield 19, 3), (12, .aload_n 2, 1), (13, .getfield 35, 3), (16, .aload_n 2, 1), (17, .getfield 39, 3), (20, .invokevirtual 42, 3), (23, .aload_n 0, 1), (24, .iload_n 3, 1), (25, .putfield 23, 3), (28, .aload_n 0, 1), (29, .iload 4, 2), (31, .putfield 27, 3), (34, .return_, 1)] = true := by decide +kernel
theorem dX2_keep_0 : decode cX2_keep 0 = .ok (.aload_n 0, 1) := kq.at kqdX2_keep_0 0 rfl
theorem dX2_keep_1 : decode cX2_keep 1 = .ok (.getfield 10, 3) := kq.at kqdX2_keep_0 1 rfl
theorem dX2_keep_4 : decode cX2_keep 4 = .ok (.aload_n 1, 1) := kq.at kqdX2_keep_0 2 rfl
theorem dX2_keep_5 : decode cX2_keep 5 = .ok (.invokevirtual 31, 3) := kq.at kqdX2_keep_0 3 rfl
theorem dX2_keep_8 : decode cX2_keep 8 = .ok (.aload_n 0, 1) := kq.at kqdX2_keep_0 4 rfl
theorem dX2_keep_9 : decode cX2_keep 9 = .ok (.getfield 19, 3) := kq.at kqdX2_keep_0 5 rfl
theorem dX2_keep_12 : decode cX2_keep 12 = .ok (.aload_n 2, 1) := kq.at kqdX2_keep_0 6 rfl
theorem dX2_keep_13 : decode cX2_keep 13 = .ok (.getfield 35, 3) := kq.at kqdX2_keep_0 7 rfl
theorem dX2_keep_16 : decode cX2_keep 16 = .ok (.aload_n 2, 1) := kq.at kqdX2_keep_0 8 rfl
theorem dX2_keep_17 : decode cX2_keep 17 = .ok (.getfield 39, 3) := kq.at kqdX2_keep_0 9 rfl
theorem dX2_keep_20 : decode cX2_keep 20 = .ok (.invokevirtual 42, 3) := kq.at kqdX2_keep_0 10 rfl
theorem dX2_keep_23 : decode cX2_keep 23 = .ok (.aload_n 0, 1) := kq.at kqdX2_keep_0 11 rfl
theorem dX2_keep_24 : decode cX2_keep 24 = .ok (.iload_n 3, 1) := kq.at kqdX2_keep_0 12 rfl
theorem dX2_keep_25 : decode cX2_keep 25 = .ok (.putfield 23, 3) := kq.at kqdX2_keep_0 13 rfl
theorem dX2_keep_28 : decode cX2_keep 28 = .ok (.aload_n 0, 1) := kq.at kqdX2_keep_0 14 rfl
theorem dX2_keep_29 : decode cX2_keep 29 = .ok (.iload 4, 2) := kq.at kqdX2_keep_0 15 rfl
theorem dX2_keep_31 : decode cX2_keep 31 = .ok (.putfield 27, 3) := kq.at kqdX2_keep_0 16 rfl
theorem dX2_keep_34 : decode cX2_keep 34 = .ok (.return_, 1) := kq.at kqdX2_keep_0 17 rfl
theorem kqdX3_init_0 : kq cX3_init [(0, .aload_n 0, 1), (1, .invokespecial 3, 3), (4, .aload_n 0, 1), (5, .new 9, 3), (8, .dup, 1), (9, .invokespecial 11, 3), (12, .putfield 12, 3), (15, .aload_n 0, 1), (16, .iconst 0, 1), (17, .putfield 18, 3), (20, .aload_n 0, 1), (21, .iconst (-1), 1), (22, .putfield 22, 3), (25, .aload_n 0, 1), (26, .iconst 3, 1), (27, .putfield 25, 3), (30, .aload_n 0, 1), (31, .iconst 0, 1), (32, .putfield 28, 3), (35, .aload_n 0, 1), (36, .iconst 0, 1), (37, .putfield 31, 3), (40, .aload_n 0, 1), (41, .iconst 0, 1)] = true := by decide +kernel
theorem dX3_init_0 : decode cX3_init 0 = .ok (.aload_n 0, 1) := kq.at kqdX3_init_0 0 rfl
theorem dX3_init_1 : decode cX3_init 1 = .ok (.invokespecial 3, 3) := kq.at kqdX3_init_0 1 rfl
theorem dX3_init_4 : decode cX3_init 4 = .ok (.aload_n 0, 1) := kq.at kqdX3_init_0 2 rfl
theorem dX3_init_5 : decode cX3_init 5 = .ok (.new 9, 3) := kq.at kqdX3_init_0 3 rfl
theorem dX3_init_8 : decode cX3_init 8 = .ok (.dup, 1) := kq.at kqdX3_init_0 4 rfl
theorem dX3_init_9 : decode cX3_init 9 = .ok (.invokespecial 11, 3) := kq.at kqdX3_init_0 5 rfl
theorem dX3_init_12 : decode cX3_init 12 = .ok (.putfield 12, 3) := kq.at kqdX3_init_0 6 rfl
theorem dX3_init_15 : decode cX3_init 15 = .ok (.aload_n 0, 1) := kq.at kqdX3_init_0 7 rfl
theorem dX3_init_16 : decode cX3_init 16 = .ok (.iconst 0, 1) := kq.at kqdX3_init_0 8 rfl
theorem dX3_init_17 : decode cX3_init 17 = .ok (.putfield 18, 3) := kq.at kqdX3_init_0 9 rfl
theorem dX3_init_20 : decode cX3_init 20 = .ok (.aload_n 0, 1) := kq.at kqdX3_init_0 10 rfl
theorem dX3_init_21 : decode cX3_init 21 = .ok (.iconst (-1), 1) := kq.at kqdX3_init_0 11 rfl
theorem dX3_init_22 : decode cX3_init 22 = .ok (.putfield 22, 3) := kq.at kqdX3_init_0 12 rfl
theorem dX3_init_25 : decode cX3_init 25 = .ok (.aload_n 0, 1) := kq.at kqdX3_init_0 13 rfl
theorem dX3_init_26 : decode cX3_init 26 = .ok (.iconst 3, 1) := kq.at kqdX3_init_0 14 rfl
theorem dX3_init_27 : decode cX3_init 27 = .ok (.putfield 25, 3) := kq.at kqdX3_init_0 15 rfl
theorem dX3_init_30 : decode cX3_init 30 = .ok (.aload_n 0, 1) := kq.at kqdX3_init_0 16 rfl
theorem dX3_init_31 : decode cX3_init 31 = .ok (.iconst 0, 1) := kq.at kqdX3_init_0 17 rfl
theorem dX3_init_32 : decode cX3_init 32 = .ok (.putfield 28, 3) := kq.at kqdX3_init_0 18 rfl
theorem dX3_init_35 : decode cX3_init 35 = .ok (.aload_n 0, 1) := kq.at kqdX3_init_0 19 rfl
theorem dX3_init_36 : decode cX3_init 36 = .ok (.iconst 0, 1) := kq.at kqdX3_init_0 20 rfl
theorem dX3_init_37 : decode cX3_init 37 = .ok (.putfield 31, 3) := kq.at kqdX3_init_0 21 rfl
theorem dX3_init_40 : decode cX3_init 40 = .ok (.aload_n 0, 1) := kq.at kqdX3_init_0 22 rfl
theorem dX3_init_41 : decode cX3_init 41 = .ok (.iconst 0, 1) := kq.at kqdX3_init_0 23 rfl
theorem kqdX3_init_42 : kq cX3_init [(42, .putfield 34, 3), (45, .aload_n 0, 1), (46, .iconst 0, 1), (47, .putfield 37, 3), (50, .aload_n 0, 1), (51, .iconst 0, 1), (52, .putfield 40, 3), (55, .aload_n 0, 1), (56, .iconst 0, 1), (57, .putfield 43, 3), (60, .return_, 1)] = true := by decide +kernel
theorem dX3_init_42 : decode cX3_init 42 = .ok (.putfield 34, 3) := kq.at kqdX3_init_42 0 rfl
theorem dX3_init_45 : decode cX3_init 45 = .ok (.aload_n 0, 1) := kq.at kqdX3_init_42 1 rfl
theorem dX3_init_46 : decode cX3_init 46 = .ok (.iconst 0, 1) := kq.at kqdX3_init_42 2 rfl
theorem dX3_init_47 : decode cX3_init 47 = .ok (.putfield 37, 3) := kq.at kqdX3_init_42 3 rfl
theorem dX3_init_50 : decode cX3_init 50 = .ok (.aload_n 0, 1) := kq.at kqdX3_init_42 4 rfl
theorem dX3_init_51 : decode cX3_init 51 = .ok (.iconst 0, 1) := kq.at kqdX3_init_42 5 rfl
theorem dX3_init_52 : decode cX3_init 52 = .ok (.putfield 40, 3) := kq.at kqdX3_init_42 6 rfl
theorem dX3_init_55 : decode cX3_init 55 = .ok (.aload_n 0, 1) := kq.at kqdX3_init_42 7 rfl
theorem dX3_init_56 : decode cX3_init 56 = .ok (.iconst 0, 1) := kq.at kqdX3_init_42 8 rfl
theorem dX3_init_57 : decode cX3_init 57 = .ok (.putfield 43, 3) := kq.at kqdX3_init_42 9 rfl
theorem dX3_init_60 : decode cX3_init 60 = .ok (.return_, 1) := kq.at kqdX3_init_42 10 rfl
theorem kqdX3_takes_0 : kq cX3_takes [(0, .aload_n 0, 1), (1, .getfield 12, 3), (4, .invokevirtual 46, 3), (7, .aload_n 0, 1), (8, .iconst 0, 1), (9, .putfield 18, 3), (12, .aload_n 0, 1), (13, .iconst (-1), 1), (14, .putfield 22, 3), (17, .aload_n 0, 1), (18, .iconst 0, 1), (19, .putfield 31, 3), (22, .aload_n 0, 1), (23, .iconst 0, 1), (24, .putfield 37, 3), (27, .aload_n 0, 1), (28, .iconst 0, 1), (29, .putfield 43, 3), (32, .iconst 1, 1), (33, .istore_n 3, 1), (34, .iconst 0, 1), (35, .istore 4, 2), (37, .iload 4, 2), (39, .iload_n 2, 1)] = true := by decide +kernel
theorem dX3_takes_0 : decode cX3_takes 0 = .ok (.aload_n 0, 1) := kq.at kqdX3_takes_0 0 rfl
theorem dX3_takes_1 : decode cX3_takes 1 = .ok (.getfield 12, 3) := kq.at kqdX3_takes_0 1 rfl
theorem dX3_takes_4 : decode cX3_takes 4 = .ok (.invokevirtual 46, 3) := kq.at kqdX3_takes_0 2 rfl
theorem dX3_takes_7 : decode cX3_takes 7 = .ok (.aload_n 0, 1) := kq.at kqdX3_takes_0 3 rfl
theorem dX3_takes_8 : decode cX3_takes 8 = .ok (.iconst 0, 1) := kq.at kqdX3_takes_0 4 rfl
theorem dX3_takes_9 : decode cX3_takes 9 = .ok (.putfield 18, 3) := kq.at kqdX3_takes_0 5 rfl
theorem dX3_takes_12 : decode cX3_takes 12 = .ok (.aload_n 0, 1) := kq.at kqdX3_takes_0 6 rfl
theorem dX3_takes_13 : decode cX3_takes 13 = .ok (.iconst (-1), 1) := kq.at kqdX3_takes_0 7 rfl
theorem dX3_takes_14 : decode cX3_takes 14 = .ok (.putfield 22, 3) := kq.at kqdX3_takes_0 8 rfl
theorem dX3_takes_17 : decode cX3_takes 17 = .ok (.aload_n 0, 1) := kq.at kqdX3_takes_0 9 rfl
theorem dX3_takes_18 : decode cX3_takes 18 = .ok (.iconst 0, 1) := kq.at kqdX3_takes_0 10 rfl
theorem dX3_takes_19 : decode cX3_takes 19 = .ok (.putfield 31, 3) := kq.at kqdX3_takes_0 11 rfl
theorem dX3_takes_22 : decode cX3_takes 22 = .ok (.aload_n 0, 1) := kq.at kqdX3_takes_0 12 rfl
theorem dX3_takes_23 : decode cX3_takes 23 = .ok (.iconst 0, 1) := kq.at kqdX3_takes_0 13 rfl
theorem dX3_takes_24 : decode cX3_takes 24 = .ok (.putfield 37, 3) := kq.at kqdX3_takes_0 14 rfl
theorem dX3_takes_27 : decode cX3_takes 27 = .ok (.aload_n 0, 1) := kq.at kqdX3_takes_0 15 rfl
theorem dX3_takes_28 : decode cX3_takes 28 = .ok (.iconst 0, 1) := kq.at kqdX3_takes_0 16 rfl
theorem dX3_takes_29 : decode cX3_takes 29 = .ok (.putfield 43, 3) := kq.at kqdX3_takes_0 17 rfl
theorem dX3_takes_32 : decode cX3_takes 32 = .ok (.iconst 1, 1) := kq.at kqdX3_takes_0 18 rfl
theorem dX3_takes_33 : decode cX3_takes 33 = .ok (.istore_n 3, 1) := kq.at kqdX3_takes_0 19 rfl
theorem dX3_takes_34 : decode cX3_takes 34 = .ok (.iconst 0, 1) := kq.at kqdX3_takes_0 20 rfl
theorem dX3_takes_35 : decode cX3_takes 35 = .ok (.istore 4, 2) := kq.at kqdX3_takes_0 21 rfl
theorem dX3_takes_37 : decode cX3_takes 37 = .ok (.iload 4, 2) := kq.at kqdX3_takes_0 22 rfl
theorem dX3_takes_39 : decode cX3_takes 39 = .ok (.iload_n 2, 1) := kq.at kqdX3_takes_0 23 rfl
theorem kqdX3_takes_40 : kq cX3_takes [(40, .if_icmp .gt 49, 3), (43, .iload_n 3, 1), (44, .ifCond .eq 45, 3), (47, .aload_n 0, 1), (48, .aload_n 1, 1), (49, .iload_n 2, 1), (50, .invokevirtual 49, 3), (53, .aload_n 0, 1), (54, .aload_n 0, 1), (55, .aload_n 1, 1), (56, .invokevirtual 53, 3), (59, .putfield 18, 3), (62, .aload_n 0, 1), (63, .getfield 18, 3), (66, .ifCond .ne 15, 3), (69, .aload_n 0, 1), (70, .getfield 25, 3), (73, .iconst 3, 1), (74, .if_icmp .eq 7, 3), (77, .iconst 1, 1), (78, .goto 4, 3), (81, .iconst 0, 1), (82, .istore_n 3, 1), (83, .iinc 4 1, 3)] = true := by decide +kernel
theorem dX3_takes_40 : decode cX3_takes 40 = .ok (.if_icmp .gt 49, 3) := kq.at kqdX3_takes_40 0 rfl
theorem dX3_takes_43 : decode cX3_takes 43 = .ok (.iload_n 3, 1) := kq.at kqdX3_takes_40 1 rfl
theorem dX3_takes_44 : decode cX3_takes 44 = .ok (.ifCond .eq 45, 3) := kq.at kqdX3_takes_40 2 rfl
theorem dX3_takes_47 : decode cX3_takes 47 = .ok (.aload_n 0, 1) := kq.at kqdX3_takes_40 3 rfl
theorem dX3_takes_48 : decode cX3_takes 48 = .ok (.aload_n 1, 1) := kq.at kqdX3_takes_40 4 rfl
theorem dX3_takes_49 : decode cX3_takes 49 = .ok (.iload_n 2, 1) := kq.at kqdX3_takes_40 5 rfl
theorem dX3_takes_50 : decode cX3_takes 50 = .ok (.invokevirtual 49, 3) := kq.at kqdX3_takes_40 6 rfl
theorem dX3_takes_53 : decode cX3_takes 53 = .ok (.aload_n 0, 1) := kq.at kqdX3_takes_40 7 rfl
theorem dX3_takes_54 : decode cX3_takes 54 = .ok (.aload_n 0, 1) := kq.at kqdX3_takes_40 8 rfl
theorem dX3_takes_55 : decode cX3_takes 55 = .ok (.aload_n 1, 1) := kq.at kqdX3_takes_40 9 rfl
theorem dX3_takes_56 : decode cX3_takes 56 = .ok (.invokevirtual 53, 3) := kq.at kqdX3_takes_40 10 rfl
theorem dX3_takes_59 : decode cX3_takes 59 = .ok (.putfield 18, 3) := kq.at kqdX3_takes_40 11 rfl
theorem dX3_takes_62 : decode cX3_takes 62 = .ok (.aload_n 0, 1) := kq.at kqdX3_takes_40 12 rfl
theorem dX3_takes_63 : decode cX3_takes 63 = .ok (.getfield 18, 3) := kq.at kqdX3_takes_40 13 rfl
theorem dX3_takes_66 : decode cX3_takes 66 = .ok (.ifCond .ne 15, 3) := kq.at kqdX3_takes_40 14 rfl
theorem dX3_takes_69 : decode cX3_takes 69 = .ok (.aload_n 0, 1) := kq.at kqdX3_takes_40 15 rfl
theorem dX3_takes_70 : decode cX3_takes 70 = .ok (.getfield 25, 3) := kq.at kqdX3_takes_40 16 rfl
theorem dX3_takes_73 : decode cX3_takes 73 = .ok (.iconst 3, 1) := kq.at kqdX3_takes_40 17 rfl
theorem dX3_takes_74 : decode cX3_takes 74 = .ok (.if_icmp .eq 7, 3) := kq.at kqdX3_takes_40 18 rfl
theorem dX3_takes_77 : decode cX3_takes 77 = .ok (.iconst 1, 1) := kq.at kqdX3_takes_40 19 rfl
theorem dX3_takes_78 : decode cX3_takes 78 = .ok (.goto 4, 3) := kq.at kqdX3_takes_40 20 rfl
theorem dX3_takes_81 : decode cX3_takes 81 = .ok (.iconst 0, 1) := kq.at kqdX3_takes_40 21 rfl
theorem dX3_takes_82 : decode cX3_takes 82 = .ok (.istore_n 3, 1) := kq.at kqdX3_takes_40 22 rfl
theorem dX3_takes_83 : decode cX3_takes 83 = .ok (.iinc 4 1, 3) := kq.at kqdX3_takes_40 23 rfl
theorem kqdX3_takes_86 : kq cX3_takes [(86, .goto (-49), 3), (89, .aload_n 0, 1), (90, .getfield 18, 3), (93, .ifCond .eq 11, 3), (96, .aload_n 0, 1), (97, .aload_n 0, 1), (98, .getfield 28, 3), (101, .putfield 22, 3), (104, .aload_n 0, 1), (105, .getfield 18, 3), (108, .ifCond .ne 7, 3), (111, .iconst 1, 1), (112, .goto 4, 3), (115, .iconst 0, 1), (116, .ireturn, 1)] = true := by decide +kernel
theorem dX3_takes_86 : decode cX3_takes 86 = .ok (.goto (-49), 3) := kq.at kqdX3_takes_86 0 rfl
theorem dX3_takes_89 : decode cX3_takes 89 = .ok (.aload_n 0, 1) := kq.at kqdX3_takes_86 1 rfl
theorem dX3_takes_90 : decode cX3_takes 90 = .ok (.getfield 18, 3) := kq.at kqdX3_takes_86 2 rfl
theorem dX3_takes_93 : decode cX3_takes 93 = .ok (.ifCond .eq 11, 3) := kq.at kqdX3_takes_86 3 rfl
theorem dX3_takes_96 : decode cX3_takes 96 = .ok (.aload_n 0, 1) := kq.at kqdX3_takes_86 4 rfl
theorem dX3_takes_97 : decode cX3_takes 97 = .ok (.aload_n 0, 1) := kq.at kqdX3_takes_86 5 rfl
theorem dX3_takes_98 : decode cX3_takes 98 = .ok (.getfield 28, 3) := kq.at kqdX3_takes_86 6 rfl
theorem dX3_takes_101 : decode cX3_takes 101 = .ok (.putfield 22, 3) := kq.at kqdX3_takes_86 7 rfl
theorem dX3_takes_104 : decode cX3_takes 104 = .ok (.aload_n 0, 1) := kq.at kqdX3_takes_86 8 rfl
theorem dX3_takes_105 : decode cX3_takes 105 = .ok (.getfield 18, 3) := kq.at kqdX3_takes_86 9 rfl
theorem dX3_takes_108 : decode cX3_takes 108 = .ok (.ifCond .ne 7, 3) := kq.at kqdX3_takes_86 10 rfl
theorem dX3_takes_111 : decode cX3_takes 111 = .ok (.iconst 1, 1) := kq.at kqdX3_takes_86 11 rfl
theorem dX3_takes_112 : decode cX3_takes 112 = .ok (.goto 4, 3) := kq.at kqdX3_takes_86 12 rfl
theorem dX3_takes_115 : decode cX3_takes 115 = .ok (.iconst 0, 1) := kq.at kqdX3_takes_86 13 rfl
theorem dX3_takes_116 : decode cX3_takes 116 = .ok (.ireturn, 1) := kq.at kqdX3_takes_86 14 rfl
theorem kqdX3_nextToken_0 : kq cX3_nextToken [(0, .aload_n 0, 1), (1, .aload_n 0, 1), (2, .getfield 31, 3), (5, .putfield 28, 3), (8, .aload_n 0, 1), (9, .getfield 28, 3), (12, .iload_n 2, 1), (13, .if_icmp .ge 28, 3), (16, .aload_n 1, 1), (17, .aload_n 0, 1), (18, .getfield 28, 3), (21, .iaload, 1), (22, .invokestatic 57, 3), (25, .ifCond .eq 16, 3), (28, .aload_n 0, 1), (29, .dup, 1), (30, .getfield 28, 3), (33, .iconst 1, 1), (34, .iadd, 1), (35, .putfield 28, 3), (38, .goto (-30), 3), (41, .aload_n 0, 1), (42, .aload_n 0, 1), (43, .getfield 28, 3)] = true := by decide +kernel
theorem dX3_nextToken_0 : decode cX3_nextToken 0 = .ok (.aload_n 0, 1) := kq.at kqdX3_nextToken_0 0 rfl
theorem dX3_nextToken_1 : decode cX3_nextToken 1 = .ok (.aload_n 0, 1) := kq.at kqdX3_nextToken_0 1 rfl
theorem dX3_nextToken_2 : decode cX3_nextToken 2 = .ok (.getfield 31, 3) := kq.at kqdX3_nextToken_0 2 rfl
theorem dX3_nextToken_5 : decode cX3_nextToken 5 = .ok (.putfield 28, 3) := kq.at kqdX3_nextToken_0 3 rfl
theorem dX3_nextToken_8 : decode cX3_nextToken 8 = .ok (.aload_n 0, 1) := kq.at kqdX3_nextToken_0 4 rfl
theorem dX3_nextToken_9 : decode cX3_nextToken 9 = .ok (.getfield 28, 3) := kq.at kqdX3_nextToken_0 5 rfl
theorem dX3_nextToken_12 : decode cX3_nextToken 12 = .ok (.iload_n 2, 1) := kq.at kqdX3_nextToken_0 6 rfl
theorem dX3_nextToken_13 : decode cX3_nextToken 13 = .ok (.if_icmp .ge 28, 3) := kq.at kqdX3_nextToken_0 7 rfl
theorem dX3_nextToken_16 : decode cX3_nextToken 16 = .ok (.aload_n 1, 1) := kq.at kqdX3_nextToken_0 8 rfl
theorem dX3_nextToken_17 : decode cX3_nextToken 17 = .ok (.aload_n 0, 1) := kq.at kqdX3_nextToken_0 9 rfl
theorem dX3_nextToken_18 : decode cX3_nextToken 18 = .ok (.getfield 28, 3) := kq.at kqdX3_nextToken_0 10 rfl
theorem dX3_nextToken_21 : decode cX3_nextToken 21 = .ok (.iaload, 1) := kq.at kqdX3_nextToken_0 11 rfl
theorem dX3_nextToken_22 : decode cX3_nextToken 22 = .ok (.invokestatic 57, 3) := kq.at kqdX3_nextToken_0 12 rfl
theorem dX3_nextToken_25 : decode cX3_nextToken 25 = .ok (.ifCond .eq 16, 3) := kq.at kqdX3_nextToken_0 13 rfl
theorem dX3_nextToken_28 : decode cX3_nextToken 28 = .ok (.aload_n 0, 1) := kq.at kqdX3_nextToken_0 14 rfl
theorem dX3_nextToken_29 : decode cX3_nextToken 29 = .ok (.dup, 1) := kq.at kqdX3_nextToken_0 15 rfl
theorem dX3_nextToken_30 : decode cX3_nextToken 30 = .ok (.getfield 28, 3) := kq.at kqdX3_nextToken_0 16 rfl
theorem dX3_nextToken_33 : decode cX3_nextToken 33 = .ok (.iconst 1, 1) := kq.at kqdX3_nextToken_0 17 rfl
theorem dX3_nextToken_34 : decode cX3_nextToken 34 = .ok (.iadd, 1) := kq.at kqdX3_nextToken_0 18 rfl
theorem dX3_nextToken_35 : decode cX3_nextToken 35 = .ok (.putfield 28, 3) := kq.at kqdX3_nextToken_0 19 rfl
theorem dX3_nextToken_38 : decode cX3_nextToken 38 = .ok (.goto (-30), 3) := kq.at kqdX3_nextToken_0 20 rfl
theorem dX3_nextToken_41 : decode cX3_nextToken 41 = .ok (.aload_n 0, 1) := kq.at kqdX3_nextToken_0 21 rfl
theorem dX3_nextToken_42 : decode cX3_nextToken 42 = .ok (.aload_n 0, 1) := kq.at kqdX3_nextToken_0 22 rfl
theorem dX3_nextToken_43 : decode cX3_nextToken 43 = .ok (.getfield 28, 3) := kq.at kqdX3_nextToken_0 23 rfl
theorem kqdX3_nextToken_46 : kq cX3_nextToken [(46, .putfield 31, 3), (49, .aload_n 0, 1), (50, .iconst 0, 1), (51, .putfield 34, 3), (54, .aload_n 0, 1), (55, .getfield 28, 3), (58, .iload_n 2, 1), (59, .if_icmp .lt 11, 3), (62, .aload_n 0, 1), (63, .iconst 3, 1), (64, .putfield 25, 3), (67, .goto 104, 3), (70, .aload_n 1, 1), (71, .aload_n 0, 1), (72, .getfield 28, 3), (75, .iaload, 1), (76, .invokestatic 61, 3), (79, .ifCond .eq 41, 3), (82, .aload_n 0, 1), (83, .iconst 0, 1), (84, .putfield 25, 3), (87, .aload_n 0, 1), (88, .getfield 31, 3), (91, .iload_n 2, 1)] = true := by decide +kernel
theorem dX3_nextToken_46 : decode cX3_nextToken 46 = .ok (.putfield 31, 3) := kq.at kqdX3_nextToken_46 0 rfl
theorem dX3_nextToken_49 : decode cX3_nextToken 49 = .ok (.aload_n 0, 1) := kq.at kqdX3_nextToken_46 1 rfl
theorem dX3_nextToken_50 : decode cX3_nextToken 50 = .ok (.iconst 0, 1) := kq.at kqdX3_nextToken_46 2 rfl
theorem dX3_nextToken_51 : decode cX3_nextToken 51 = .ok (.putfield 34, 3) := kq.at kqdX3_nextToken_46 3 rfl
theorem dX3_nextToken_54 : decode cX3_nextToken 54 = .ok (.aload_n 0, 1) := kq.at kqdX3_nextToken_46 4 rfl
theorem dX3_nextToken_55 : decode cX3_nextToken 55 = .ok (.getfield 28, 3) := kq.at kqdX3_nextToken_46 5 rfl
theorem dX3_nextToken_58 : decode cX3_nextToken 58 = .ok (.iload_n 2, 1) := kq.at kqdX3_nextToken_46 6 rfl
theorem dX3_nextToken_59 : decode cX3_nextToken 59 = .ok (.if_icmp .lt 11, 3) := kq.at kqdX3_nextToken_46 7 rfl
theorem dX3_nextToken_62 : decode cX3_nextToken 62 = .ok (.aload_n 0, 1) := kq.at kqdX3_nextToken_46 8 rfl
theorem dX3_nextToken_63 : decode cX3_nextToken 63 = .ok (.iconst 3, 1) := kq.at kqdX3_nextToken_46 9 rfl
theorem dX3_nextToken_64 : decode cX3_nextToken 64 = .ok (.putfield 25, 3) := kq.at kqdX3_nextToken_46 10 rfl
theorem dX3_nextToken_67 : decode cX3_nextToken 67 = .ok (.goto 104, 3) := kq.at kqdX3_nextToken_46 11 rfl
theorem dX3_nextToken_70 : decode cX3_nextToken 70 = .ok (.aload_n 1, 1) := kq.at kqdX3_nextToken_46 12 rfl
theorem dX3_nextToken_71 : decode cX3_nextToken 71 = .ok (.aload_n 0, 1) := kq.at kqdX3_nextToken_46 13 rfl
theorem dX3_nextToken_72 : decode cX3_nextToken 72 = .ok (.getfield 28, 3) := kq.at kqdX3_nextToken_46 14 rfl
theorem dX3_nextToken_75 : decode cX3_nextToken 75 = .ok (.iaload, 1) := kq.at kqdX3_nextToken_46 15 rfl
theorem dX3_nextToken_76 : decode cX3_nextToken 76 = .ok (.invokestatic 61, 3) := kq.at kqdX3_nextToken_46 16 rfl
theorem dX3_nextToken_79 : decode cX3_nextToken 79 = .ok (.ifCond .eq 41, 3) := kq.at kqdX3_nextToken_46 17 rfl
theorem dX3_nextToken_82 : decode cX3_nextToken 82 = .ok (.aload_n 0, 1) := kq.at kqdX3_nextToken_46 18 rfl
theorem dX3_nextToken_83 : decode cX3_nextToken 83 = .ok (.iconst 0, 1) := kq.at kqdX3_nextToken_46 19 rfl
theorem dX3_nextToken_84 : decode cX3_nextToken 84 = .ok (.putfield 25, 3) := kq.at kqdX3_nextToken_46 20 rfl
theorem dX3_nextToken_87 : decode cX3_nextToken 87 = .ok (.aload_n 0, 1) := kq.at kqdX3_nextToken_46 21 rfl
theorem dX3_nextToken_88 : decode cX3_nextToken 88 = .ok (.getfield 31, 3) := kq.at kqdX3_nextToken_46 22 rfl
theorem dX3_nextToken_91 : decode cX3_nextToken 91 = .ok (.iload_n 2, 1) := kq.at kqdX3_nextToken_46 23 rfl
theorem kqdX3_nextToken_92 : kq cX3_nextToken [(92, .if_icmp .ge 79, 3), (95, .aload_n 1, 1), (96, .aload_n 0, 1), (97, .getfield 31, 3), (100, .iaload, 1), (101, .invokestatic 61, 3), (104, .ifCond .eq 67, 3), (107, .aload_n 0, 1), (108, .dup, 1), (109, .getfield 31, 3), (112, .iconst 1, 1), (113, .iadd, 1), (114, .putfield 31, 3), (117, .goto (-30), 3), (120, .aload_n 1, 1), (121, .aload_n 0, 1), (122, .getfield 28, 3), (125, .iaload, 1), (126, .invokestatic 64, 3), (129, .ifCond .eq 12, 3), (132, .aload_n 0, 1), (133, .aload_n 1, 1), (134, .iload_n 2, 1), (135, .invokevirtual 67, 3)] = true := by decide +kernel
theorem dX3_nextToken_92 : decode cX3_nextToken 92 = .ok (.if_icmp .ge 79, 3) := kq.at kqdX3_nextToken_92 0 rfl
theorem dX3_nextToken_95 : decode cX3_nextToken 95 = .ok (.aload_n 1, 1) := kq.at kqdX3_nextToken_92 1 rfl
theorem dX3_nextToken_96 : decode cX3_nextToken 96 = .ok (.aload_n 0, 1) := kq.at kqdX3_nextToken_92 2 rfl
theorem dX3_nextToken_97 : decode cX3_nextToken 97 = .ok (.getfield 31, 3) := kq.at kqdX3_nextToken_92 3 rfl
theorem dX3_nextToken_100 : decode cX3_nextToken 100 = .ok (.iaload, 1) := kq.at kqdX3_nextToken_92 4 rfl
theorem dX3_nextToken_101 : decode cX3_nextToken 101 = .ok (.invokestatic 61, 3) := kq.at kqdX3_nextToken_92 5 rfl
theorem dX3_nextToken_104 : decode cX3_nextToken 104 = .ok (.ifCond .eq 67, 3) := kq.at kqdX3_nextToken_92 6 rfl
theorem dX3_nextToken_107 : decode cX3_nextToken 107 = .ok (.aload_n 0, 1) := kq.at kqdX3_nextToken_92 7 rfl
theorem dX3_nextToken_108 : decode cX3_nextToken 108 = .ok (.dup, 1) := kq.at kqdX3_nextToken_92 8 rfl
theorem dX3_nextToken_109 : decode cX3_nextToken 109 = .ok (.getfield 31, 3) := kq.at kqdX3_nextToken_92 9 rfl
theorem dX3_nextToken_112 : decode cX3_nextToken 112 = .ok (.iconst 1, 1) := kq.at kqdX3_nextToken_92 10 rfl
theorem dX3_nextToken_113 : decode cX3_nextToken 113 = .ok (.iadd, 1) := kq.at kqdX3_nextToken_92 11 rfl
theorem dX3_nextToken_114 : decode cX3_nextToken 114 = .ok (.putfield 31, 3) := kq.at kqdX3_nextToken_92 12 rfl
theorem dX3_nextToken_117 : decode cX3_nextToken 117 = .ok (.goto (-30), 3) := kq.at kqdX3_nextToken_92 13 rfl
theorem dX3_nextToken_120 : decode cX3_nextToken 120 = .ok (.aload_n 1, 1) := kq.at kqdX3_nextToken_92 14 rfl
theorem dX3_nextToken_121 : decode cX3_nextToken 121 = .ok (.aload_n 0, 1) := kq.at kqdX3_nextToken_92 15 rfl
theorem dX3_nextToken_122 : decode cX3_nextToken 122 = .ok (.getfield 28, 3) := kq.at kqdX3_nextToken_92 16 rfl
theorem dX3_nextToken_125 : decode cX3_nextToken 125 = .ok (.iaload, 1) := kq.at kqdX3_nextToken_92 17 rfl
theorem dX3_nextToken_126 : decode cX3_nextToken 126 = .ok (.invokestatic 64, 3) := kq.at kqdX3_nextToken_92 18 rfl
theorem dX3_nextToken_129 : decode cX3_nextToken 129 = .ok (.ifCond .eq 12, 3) := kq.at kqdX3_nextToken_92 19 rfl
theorem dX3_nextToken_132 : decode cX3_nextToken 132 = .ok (.aload_n 0, 1) := kq.at kqdX3_nextToken_92 20 rfl
theorem dX3_nextToken_133 : decode cX3_nextToken 133 = .ok (.aload_n 1, 1) := kq.at kqdX3_nextToken_92 21 rfl
theorem dX3_nextToken_134 : decode cX3_nextToken 134 = .ok (.iload_n 2, 1) := kq.at kqdX3_nextToken_92 22 rfl
theorem dX3_nextToken_135 : decode cX3_nextToken 135 = .ok (.invokevirtual 67, 3) := kq.at kqdX3_nextToken_92 23 rfl
theorem kqdX3_nextToken_138 : kq cX3_nextToken [(138, .goto 33, 3), (141, .aload_n 0, 1), (142, .aload_n 1, 1), (143, .aload_n 0, 1), (144, .getfield 28, 3), (147, .iaload, 1), (148, .bipush 59, 2), (150, .if_icmp .ne 7, 3), (153, .iconst 2, 1), (154, .goto 4, 3), (157, .iconst 4, 1), (158, .putfield 25, 3), (161, .aload_n 0, 1), (162, .dup, 1), (163, .getfield 31, 3), (166, .iconst 1, 1), (167, .iadd, 1), (168, .putfield 31, 3), (171, .return_, 1)] = true := by decide +kernel
theorem dX3_nextToken_138 : decode cX3_nextToken 138 = .ok (.goto 33, 3) := kq.at kqdX3_nextToken_138 0 rfl
theorem dX3_nextToken_141 : decode cX3_nextToken 141 = .ok (.aload_n 0, 1) := kq.at kqdX3_nextToken_138 1 rfl
theorem dX3_nextToken_142 : decode cX3_nextToken 142 = .ok (.aload_n 1, 1) := kq.at kqdX3_nextToken_138 2 rfl
theorem dX3_nextToken_143 : decode cX3_nextToken 143 = .ok (.aload_n 0, 1) := kq.at kqdX3_nextToken_138 3 rfl
theorem dX3_nextToken_144 : decode cX3_nextToken 144 = .ok (.getfield 28, 3) := kq.at kqdX3_nextToken_138 4 rfl
theorem dX3_nextToken_147 : decode cX3_nextToken 147 = .ok (.iaload, 1) := kq.at kqdX3_nextToken_138 5 rfl
theorem dX3_nextToken_148 : decode cX3_nextToken 148 = .ok (.bipush 59, 2) := kq.at kqdX3_nextToken_138 6 rfl
theorem dX3_nextToken_150 : decode cX3_nextToken 150 = .ok (.if_icmp .ne 7, 3) := kq.at kqdX3_nextToken_138 7 rfl
theorem dX3_nextToken_153 : decode cX3_nextToken 153 = .ok (.iconst 2, 1) := kq.at kqdX3_nextToken_138 8 rfl
theorem dX3_nextToken_154 : decode cX3_nextToken 154 = .ok (.goto 4, 3) := kq.at kqdX3_nextToken_138 9 rfl
theorem dX3_nextToken_157 : decode cX3_nextToken 157 = .ok (.iconst 4, 1) := kq.at kqdX3_nextToken_138 10 rfl
theorem dX3_nextToken_158 : decode cX3_nextToken 158 = .ok (.putfield 25, 3) := kq.at kqdX3_nextToken_138 11 rfl
theorem dX3_nextToken_161 : decode cX3_nextToken 161 = .ok (.aload_n 0, 1) := kq.at kqdX3_nextToken_138 12 rfl
theorem dX3_nextToken_162 : decode cX3_nextToken 162 = .ok (.dup, 1) := kq.at kqdX3_nextToken_138 13 rfl
theorem dX3_nextToken_163 : decode cX3_nextToken 163 = .ok (.getfield 31, 3) := kq.at kqdX3_nextToken_138 14 rfl
theorem dX3_nextToken_166 : decode cX3_nextToken 166 = .ok (.iconst 1, 1) := kq.at kqdX3_nextToken_138 15 rfl
theorem dX3_nextToken_167 : decode cX3_nextToken 167 = .ok (.iadd, 1) := kq.at kqdX3_nextToken_138 16 rfl
theorem dX3_nextToken_168 : decode cX3_nextToken 168 = .ok (.putfield 31, 3) := kq.at kqdX3_nextToken_138 17 rfl
theorem dX3_nextToken_171 : decode cX3_nextToken 171 = .ok (.return_, 1) := kq.at kqdX3_nextToken_138 18 rfl
theorem kqdX3_nextNumeral_0 : kq cX3_nextNumeral [(0, .aload_n 0, 1), (1, .getfield 31, 3), (4, .iload_n 2, 1), (5, .if_icmp .ge 62, 3), (8, .aload_n 1, 1), (9, .aload_n 0, 1), (10, .getfield 31, 3), (13, .iaload, 1), (14, .invokestatic 64, 3), (17, .ifCond .eq 50, 3), (20, .aload_n 0, 1), (21, .getfield 31, 3), (24, .aload_n 0, 1), (25, .getfield 28, 3), (28, .isub, 1), (29, .iconst 4, 1), (30, .if_icmp .ge 24, 3), (33, .aload_n 0, 1), (34, .aload_n 0, 1), (35, .getfield 34, 3), (38, .bipush 10, 2), (40, .imul, 1), (41, .aload_n 1, 1), (42, .aload_n 0, 1)] = true := by decide +kernel
theorem dX3_nextNumeral_0 : decode cX3_nextNumeral 0 = .ok (.aload_n 0, 1) := kq.at kqdX3_nextNumeral_0 0 rfl
theorem dX3_nextNumeral_1 : decode cX3_nextNumeral 1 = .ok (.getfield 31, 3) := kq.at kqdX3_nextNumeral_0 1 rfl
theorem dX3_nextNumeral_4 : decode cX3_nextNumeral 4 = .ok (.iload_n 2, 1) := kq.at kqdX3_nextNumeral_0 2 rfl
theorem dX3_nextNumeral_5 : decode cX3_nextNumeral 5 = .ok (.if_icmp .ge 62, 3) := kq.at kqdX3_nextNumeral_0 3 rfl
theorem dX3_nextNumeral_8 : decode cX3_nextNumeral 8 = .ok (.aload_n 1, 1) := kq.at kqdX3_nextNumeral_0 4 rfl
theorem dX3_nextNumeral_9 : decode cX3_nextNumeral 9 = .ok (.aload_n 0, 1) := kq.at kqdX3_nextNumeral_0 5 rfl
theorem dX3_nextNumeral_10 : decode cX3_nextNumeral 10 = .ok (.getfield 31, 3) := kq.at kqdX3_nextNumeral_0 6 rfl
theorem dX3_nextNumeral_13 : decode cX3_nextNumeral 13 = .ok (.iaload, 1) := kq.at kqdX3_nextNumeral_0 7 rfl
theorem dX3_nextNumeral_14 : decode cX3_nextNumeral 14 = .ok (.invokestatic 64, 3) := kq.at kqdX3_nextNumeral_0 8 rfl
theorem dX3_nextNumeral_17 : decode cX3_nextNumeral 17 = .ok (.ifCond .eq 50, 3) := kq.at kqdX3_nextNumeral_0 9 rfl
theorem dX3_nextNumeral_20 : decode cX3_nextNumeral 20 = .ok (.aload_n 0, 1) := kq.at kqdX3_nextNumeral_0 10 rfl
theorem dX3_nextNumeral_21 : decode cX3_nextNumeral 21 = .ok (.getfield 31, 3) := kq.at kqdX3_nextNumeral_0 11 rfl
theorem dX3_nextNumeral_24 : decode cX3_nextNumeral 24 = .ok (.aload_n 0, 1) := kq.at kqdX3_nextNumeral_0 12 rfl
theorem dX3_nextNumeral_25 : decode cX3_nextNumeral 25 = .ok (.getfield 28, 3) := kq.at kqdX3_nextNumeral_0 13 rfl
theorem dX3_nextNumeral_28 : decode cX3_nextNumeral 28 = .ok (.isub, 1) := kq.at kqdX3_nextNumeral_0 14 rfl
theorem dX3_nextNumeral_29 : decode cX3_nextNumeral 29 = .ok (.iconst 4, 1) := kq.at kqdX3_nextNumeral_0 15 rfl
theorem dX3_nextNumeral_30 : decode cX3_nextNumeral 30 = .ok (.if_icmp .ge 24, 3) := kq.at kqdX3_nextNumeral_0 16 rfl
theorem dX3_nextNumeral_33 : decode cX3_nextNumeral 33 = .ok (.aload_n 0, 1) := kq.at kqdX3_nextNumeral_0 17 rfl
theorem dX3_nextNumeral_34 : decode cX3_nextNumeral 34 = .ok (.aload_n 0, 1) := kq.at kqdX3_nextNumeral_0 18 rfl
theorem dX3_nextNumeral_35 : decode cX3_nextNumeral 35 = .ok (.getfield 34, 3) := kq.at kqdX3_nextNumeral_0 19 rfl
theorem dX3_nextNumeral_38 : decode cX3_nextNumeral 38 = .ok (.bipush 10, 2) := kq.at kqdX3_nextNumeral_0 20 rfl
theorem dX3_nextNumeral_40 : decode cX3_nextNumeral 40 = .ok (.imul, 1) := kq.at kqdX3_nextNumeral_0 21 rfl
theorem dX3_nextNumeral_41 : decode cX3_nextNumeral 41 = .ok (.aload_n 1, 1) := kq.at kqdX3_nextNumeral_0 22 rfl
theorem dX3_nextNumeral_42 : decode cX3_nextNumeral 42 = .ok (.aload_n 0, 1) := kq.at kqdX3_nextNumeral_0 23 rfl
theorem kqdX3_nextNumeral_43 : kq cX3_nextNumeral [(43, .getfield 31, 3), (46, .iaload, 1), (47, .iadd, 1), (48, .bipush 48, 2), (50, .isub, 1), (51, .putfield 34, 3), (54, .aload_n 0, 1), (55, .dup, 1), (56, .getfield 31, 3), (59, .iconst 1, 1), (60, .iadd, 1), (61, .putfield 31, 3), (64, .goto (-64), 3), (67, .aload_n 0, 1), (68, .aload_n 0, 1), (69, .getfield 31, 3), (72, .aload_n 0, 1), (73, .getfield 28, 3), (76, .isub, 1), (77, .iconst 4, 1), (78, .if_icmp .le 7, 3), (81, .iconst 4, 1), (82, .goto 4, 3), (85, .iconst 1, 1)] = true := by decide +kernel
theorem dX3_nextNumeral_43 : decode cX3_nextNumeral 43 = .ok (.getfield 31, 3) := kq.at kqdX3_nextNumeral_43 0 rfl
theorem dX3_nextNumeral_46 : decode cX3_nextNumeral 46 = .ok (.iaload, 1) := kq.at kqdX3_nextNumeral_43 1 rfl
theorem dX3_nextNumeral_47 : decode cX3_nextNumeral 47 = .ok (.iadd, 1) := kq.at kqdX3_nextNumeral_43 2 rfl
theorem dX3_nextNumeral_48 : decode cX3_nextNumeral 48 = .ok (.bipush 48, 2) := kq.at kqdX3_nextNumeral_43 3 rfl
theorem dX3_nextNumeral_50 : decode cX3_nextNumeral 50 = .ok (.isub, 1) := kq.at kqdX3_nextNumeral_43 4 rfl
theorem dX3_nextNumeral_51 : decode cX3_nextNumeral 51 = .ok (.putfield 34, 3) := kq.at kqdX3_nextNumeral_43 5 rfl
theorem dX3_nextNumeral_54 : decode cX3_nextNumeral 54 = .ok (.aload_n 0, 1) := kq.at kqdX3_nextNumeral_43 6 rfl
theorem dX3_nextNumeral_55 : decode cX3_nextNumeral 55 = .ok (.dup, 1) := kq.at kqdX3_nextNumeral_43 7 rfl
theorem dX3_nextNumeral_56 : decode cX3_nextNumeral 56 = .ok (.getfield 31, 3) := kq.at kqdX3_nextNumeral_43 8 rfl
theorem dX3_nextNumeral_59 : decode cX3_nextNumeral 59 = .ok (.iconst 1, 1) := kq.at kqdX3_nextNumeral_43 9 rfl
theorem dX3_nextNumeral_60 : decode cX3_nextNumeral 60 = .ok (.iadd, 1) := kq.at kqdX3_nextNumeral_43 10 rfl
theorem dX3_nextNumeral_61 : decode cX3_nextNumeral 61 = .ok (.putfield 31, 3) := kq.at kqdX3_nextNumeral_43 11 rfl
theorem dX3_nextNumeral_64 : decode cX3_nextNumeral 64 = .ok (.goto (-64), 3) := kq.at kqdX3_nextNumeral_43 12 rfl
theorem dX3_nextNumeral_67 : decode cX3_nextNumeral 67 = .ok (.aload_n 0, 1) := kq.at kqdX3_nextNumeral_43 13 rfl
theorem dX3_nextNumeral_68 : decode cX3_nextNumeral 68 = .ok (.aload_n 0, 1) := kq.at kqdX3_nextNumeral_43 14 rfl
theorem dX3_nextNumeral_69 : decode cX3_nextNumeral 69 = .ok (.getfield 31, 3) := kq.at kqdX3_nextNumeral_43 15 rfl
theorem dX3_nextNumeral_72 : decode cX3_nextNumeral 72 = .ok (.aload_n 0, 1) := kq.at kqdX3_nextNumeral_43 16 rfl
theorem dX3_nextNumeral_73 : decode cX3_nextNumeral 73 = .ok (.getfield 28, 3) := kq.at kqdX3_nextNumeral_43 17 rfl
theorem dX3_nextNumeral_76 : decode cX3_nextNumeral 76 = .ok (.isub, 1) := kq.at kqdX3_nextNumeral_43 18 rfl
theorem dX3_nextNumeral_77 : decode cX3_nextNumeral 77 = .ok (.iconst 4, 1) := kq.at kqdX3_nextNumeral_43 19 rfl
theorem dX3_nextNumeral_78 : decode cX3_nextNumeral 78 = .ok (.if_icmp .le 7, 3) := kq.at kqdX3_nextNumeral_43 20 rfl
theorem dX3_nextNumeral_81 : decode cX3_nextNumeral 81 = .ok (.iconst 4, 1) := kq.at kqdX3_nextNumeral_43 21 rfl
theorem dX3_nextNumeral_82 : decode cX3_nextNumeral 82 = .ok (.goto 4, 3) := kq.at kqdX3_nextNumeral_43 22 rfl
theorem dX3_nextNumeral_85 : decode cX3_nextNumeral 85 = .ok (.iconst 1, 1) := kq.at kqdX3_nextNumeral_43 23 rfl
theorem kqdX3_nextNumeral_86 : kq cX3_nextNumeral [(86, .putfield 25, 3), (89, .return_, 1)] = true := by decide +kernel
theorem dX3_nextNumeral_86 : decode cX3_nextNumeral 86 = .ok (.putfield 25, 3) := kq.at kqdX3_nextNumeral_86 0 rfl
theorem dX3_nextNumeral_89 : decode cX3_nextNumeral 89 = .ok (.return_, 1) := kq.at kqdX3_nextNumeral_86 1 rfl
theorem kqdX3_isWord_0 : kq cX3_isWord [(0, .aload_n 0, 1), (1, .getfield 25, 3), (4, .ifCond .ne 19, 3), (7, .aload_n 0, 1), (8, .getfield 31, 3), (11, .aload_n 0, 1), (12, .getfield 28, 3), (15, .isub, 1), (16, .aload_n 2, 1), (17, .invokevirtual 70, 3), (20, .if_icmp .eq 5, 3), (23, .iconst 0, 1), (24, .ireturn, 1), (25, .iconst 0, 1), (26, .istore_n 3, 1), (27, .iload_n 3, 1), (28, .aload_n 2, 1), (29, .invokevirtual 70, 3), (32, .if_icmp .ge 27, 3), (35, .aload_n 1, 1), (36, .aload_n 0, 1), (37, .getfield 28, 3), (40, .iload_n 3, 1), (41, .iadd, 1)] = true := by decide +kernel
theorem dX3_isWord_0 : decode cX3_isWord 0 = .ok (.aload_n 0, 1) := kq.at kqdX3_isWord_0 0 rfl
theorem dX3_isWord_1 : decode cX3_isWord 1 = .ok (.getfield 25, 3) := kq.at kqdX3_isWord_0 1 rfl
theorem dX3_isWord_4 : decode cX3_isWord 4 = .ok (.ifCond .ne 19, 3) := kq.at kqdX3_isWord_0 2 rfl
theorem dX3_isWord_7 : decode cX3_isWord 7 = .ok (.aload_n 0, 1) := kq.at kqdX3_isWord_0 3 rfl
theorem dX3_isWord_8 : decode cX3_isWord 8 = .ok (.getfield 31, 3) := kq.at kqdX3_isWord_0 4 rfl
theorem dX3_isWord_11 : decode cX3_isWord 11 = .ok (.aload_n 0, 1) := kq.at kqdX3_isWord_0 5 rfl
theorem dX3_isWord_12 : decode cX3_isWord 12 = .ok (.getfield 28, 3) := kq.at kqdX3_isWord_0 6 rfl
theorem dX3_isWord_15 : decode cX3_isWord 15 = .ok (.isub, 1) := kq.at kqdX3_isWord_0 7 rfl
theorem dX3_isWord_16 : decode cX3_isWord 16 = .ok (.aload_n 2, 1) := kq.at kqdX3_isWord_0 8 rfl
theorem dX3_isWord_17 : decode cX3_isWord 17 = .ok (.invokevirtual 70, 3) := kq.at kqdX3_isWord_0 9 rfl
theorem dX3_isWord_20 : decode cX3_isWord 20 = .ok (.if_icmp .eq 5, 3) := kq.at kqdX3_isWord_0 10 rfl
theorem dX3_isWord_23 : decode cX3_isWord 23 = .ok (.iconst 0, 1) := kq.at kqdX3_isWord_0 11 rfl
theorem dX3_isWord_24 : decode cX3_isWord 24 = .ok (.ireturn, 1) := kq.at kqdX3_isWord_0 12 rfl
theorem dX3_isWord_25 : decode cX3_isWord 25 = .ok (.iconst 0, 1) := kq.at kqdX3_isWord_0 13 rfl
theorem dX3_isWord_26 : decode cX3_isWord 26 = .ok (.istore_n 3, 1) := kq.at kqdX3_isWord_0 14 rfl
theorem dX3_isWord_27 : decode cX3_isWord 27 = .ok (.iload_n 3, 1) := kq.at kqdX3_isWord_0 15 rfl
theorem dX3_isWord_28 : decode cX3_isWord 28 = .ok (.aload_n 2, 1) := kq.at kqdX3_isWord_0 16 rfl
theorem dX3_isWord_29 : decode cX3_isWord 29 = .ok (.invokevirtual 70, 3) := kq.at kqdX3_isWord_0 17 rfl
theorem dX3_isWord_32 : decode cX3_isWord 32 = .ok (.if_icmp .ge 27, 3) := kq.at kqdX3_isWord_0 18 rfl
theorem dX3_isWord_35 : decode cX3_isWord 35 = .ok (.aload_n 1, 1) := kq.at kqdX3_isWord_0 19 rfl
theorem dX3_isWord_36 : decode cX3_isWord 36 = .ok (.aload_n 0, 1) := kq.at kqdX3_isWord_0 20 rfl
theorem dX3_isWord_37 : decode cX3_isWord 37 = .ok (.getfield 28, 3) := kq.at kqdX3_isWord_0 21 rfl
theorem dX3_isWord_40 : decode cX3_isWord 40 = .ok (.iload_n 3, 1) := kq.at kqdX3_isWord_0 22 rfl
theorem dX3_isWord_41 : decode cX3_isWord 41 = .ok (.iadd, 1) := kq.at kqdX3_isWord_0 23 rfl
theorem kqdX3_isWord_42 : kq cX3_isWord [(42, .iaload, 1), (43, .aload_n 2, 1), (44, .iload_n 3, 1), (45, .invokevirtual 76, 3), (48, .if_icmp .eq 5, 3), (51, .iconst 0, 1), (52, .ireturn, 1), (53, .iinc 3 1, 3), (56, .goto (-29), 3), (59, .iconst 1, 1), (60, .ireturn, 1)] = true := by decide +kernel
theorem dX3_isWord_42 : decode cX3_isWord 42 = .ok (.iaload, 1) := kq.at kqdX3_isWord_42 0 rfl
theorem dX3_isWord_43 : decode cX3_isWord 43 = .ok (.aload_n 2, 1) := kq.at kqdX3_isWord_42 1 rfl
theorem dX3_isWord_44 : decode cX3_isWord 44 = .ok (.iload_n 3, 1) := kq.at kqdX3_isWord_42 2 rfl
theorem dX3_isWord_45 : decode cX3_isWord 45 = .ok (.invokevirtual 76, 3) := kq.at kqdX3_isWord_42 3 rfl
theorem dX3_isWord_48 : decode cX3_isWord 48 = .ok (.if_icmp .eq 5, 3) := kq.at kqdX3_isWord_42 4 rfl
theorem dX3_isWord_51 : decode cX3_isWord 51 = .ok (.iconst 0, 1) := kq.at kqdX3_isWord_42 5 rfl
theorem dX3_isWord_52 : decode cX3_isWord 52 = .ok (.ireturn, 1) := kq.at kqdX3_isWord_42 6 rfl
theorem dX3_isWord_53 : decode cX3_isWord 53 = .ok (.iinc 3 1, 3) := kq.at kqdX3_isWord_42 7 rfl
theorem dX3_isWord_56 : decode cX3_isWord 56 = .ok (.goto (-29), 3) := kq.at kqdX3_isWord_42 8 rfl
theorem dX3_isWord_59 : decode cX3_isWord 59 = .ok (.iconst 1, 1) := kq.at kqdX3_isWord_42 9 rfl
theorem dX3_isWord_60 : decode cX3_isWord 60 = .ok (.ireturn, 1) := kq.at kqdX3_isWord_42 10 rfl
theorem kqdX3_faultOfToken_0 : kq cX3_faultOfToken [(0, .aload_n 0, 1), (1, .getfield 25, 3), (4, .iconst 4, 1), (5, .if_icmp .ne 5, 3), (8, .iconst 1, 1), (9, .ireturn, 1), (10, .aload_n 0, 1), (11, .getfield 25, 3), (14, .iconst 3, 1), (15, .if_icmp .ne 16, 3), (18, .aload_n 0, 1), (19, .getfield 37, 3), (22, .ifCond .ne 7, 3), (25, .iconst 0, 1), (26, .goto 4, 3), (29, .iconst 2, 1), (30, .ireturn, 1), (31, .aload_n 0, 1), (32, .getfield 37, 3), (35, .tableswitch 131 0 6 #[41, 47, 53, 74, 91, 97, 114], 41), (76, .aload_n 0, 1), (77, .aload_n 1, 1), (78, .invokevirtual 80, 3), (81, .ireturn, 1)] = true := by decide +kernel
theorem dX3_faultOfToken_0 : decode cX3_faultOfToken 0 = .ok (.aload_n 0, 1) := kq.at kqdX3_faultOfToken_0 0 rfl
theorem dX3_faultOfToken_1 : decode cX3_faultOfToken 1 = .ok (.getfield 25, 3) := kq.at kqdX3_faultOfToken_0 1 rfl
theorem dX3_faultOfToken_4 : decode cX3_faultOfToken 4 = .ok (.iconst 4, 1) := kq.at kqdX3_faultOfToken_0 2 rfl
theorem dX3_faultOfToken_5 : decode cX3_faultOfToken 5 = .ok (.if_icmp .ne 5, 3) := kq.at kqdX3_faultOfToken_0 3 rfl
theorem dX3_faultOfToken_8 : decode cX3_faultOfToken 8 = .ok (.iconst 1, 1) := kq.at kqdX3_faultOfToken_0 4 rfl
theorem dX3_faultOfToken_9 : decode cX3_faultOfToken 9 = .ok (.ireturn, 1) := kq.at kqdX3_faultOfToken_0 5 rfl
theorem dX3_faultOfToken_10 : decode cX3_faultOfToken 10 = .ok (.aload_n 0, 1) := kq.at kqdX3_faultOfToken_0 6 rfl
theorem dX3_faultOfToken_11 : decode cX3_faultOfToken 11 = .ok (.getfield 25, 3) := kq.at kqdX3_faultOfToken_0 7 rfl
theorem dX3_faultOfToken_14 : decode cX3_faultOfToken 14 = .ok (.iconst 3, 1) := kq.at kqdX3_faultOfToken_0 8 rfl
theorem dX3_faultOfToken_15 : decode cX3_faultOfToken 15 = .ok (.if_icmp .ne 16, 3) := kq.at kqdX3_faultOfToken_0 9 rfl
theorem dX3_faultOfToken_18 : decode cX3_faultOfToken 18 = .ok (.aload_n 0, 1) := kq.at kqdX3_faultOfToken_0 10 rfl
theorem dX3_faultOfToken_19 : decode cX3_faultOfToken 19 = .ok (.getfield 37, 3) := kq.at kqdX3_faultOfToken_0 11 rfl
theorem dX3_faultOfToken_22 : decode cX3_faultOfToken 22 = .ok (.ifCond .ne 7, 3) := kq.at kqdX3_faultOfToken_0 12 rfl
theorem dX3_faultOfToken_25 : decode cX3_faultOfToken 25 = .ok (.iconst 0, 1) := kq.at kqdX3_faultOfToken_0 13 rfl
theorem dX3_faultOfToken_26 : decode cX3_faultOfToken 26 = .ok (.goto 4, 3) := kq.at kqdX3_faultOfToken_0 14 rfl
theorem dX3_faultOfToken_29 : decode cX3_faultOfToken 29 = .ok (.iconst 2, 1) := kq.at kqdX3_faultOfToken_0 15 rfl
theorem dX3_faultOfToken_30 : decode cX3_faultOfToken 30 = .ok (.ireturn, 1) := kq.at kqdX3_faultOfToken_0 16 rfl
theorem dX3_faultOfToken_31 : decode cX3_faultOfToken 31 = .ok (.aload_n 0, 1) := kq.at kqdX3_faultOfToken_0 17 rfl
theorem dX3_faultOfToken_32 : decode cX3_faultOfToken 32 = .ok (.getfield 37, 3) := kq.at kqdX3_faultOfToken_0 18 rfl
theorem dX3_faultOfToken_35 : decode cX3_faultOfToken 35 = .ok (.tableswitch 131 0 6 #[41, 47, 53, 74, 91, 97, 114], 41) := kq.at kqdX3_faultOfToken_0 19 rfl
theorem dX3_faultOfToken_76 : decode cX3_faultOfToken 76 = .ok (.aload_n 0, 1) := kq.at kqdX3_faultOfToken_0 20 rfl
theorem dX3_faultOfToken_77 : decode cX3_faultOfToken 77 = .ok (.aload_n 1, 1) := kq.at kqdX3_faultOfToken_0 21 rfl
theorem dX3_faultOfToken_78 : decode cX3_faultOfToken 78 = .ok (.invokevirtual 80, 3) := kq.at kqdX3_faultOfToken_0 22 rfl
theorem dX3_faultOfToken_81 : decode cX3_faultOfToken 81 = .ok (.ireturn, 1) := kq.at kqdX3_faultOfToken_0 23 rfl
theorem kqdX3_faultOfToken_82 : kq cX3_faultOfToken [(82, .aload_n 0, 1), (83, .aload_n 1, 1), (84, .invokevirtual 83, 3), (87, .ireturn, 1), (88, .aload_n 0, 1), (89, .iconst 3, 1), (90, .putfield 37, 3), (93, .aload_n 0, 1), (94, .aload_n 1, 1), (95, .ldc 86, 2), (97, .invokevirtual 88, 3), (100, .ifCond .eq 7, 3), (103, .iconst 0, 1), (104, .goto 4, 3), (107, .iconst 2, 1), (108, .ireturn, 1), (109, .aload_n 0, 1), (110, .getfield 25, 3), (113, .iconst 1, 1), (114, .if_icmp .ne 10, 3), (117, .aload_n 0, 1), (118, .invokevirtual 92, 3), (121, .goto 4, 3), (124, .iconst 2, 1)] = true := by decide +kernel
theorem dX3_faultOfToken_82 : decode cX3_faultOfToken 82 = .ok (.aload_n 0, 1) := kq.at kqdX3_faultOfToken_82 0 rfl
theorem dX3_faultOfToken_83 : decode cX3_faultOfToken 83 = .ok (.aload_n 1, 1) := kq.at kqdX3_faultOfToken_82 1 rfl
theorem dX3_faultOfToken_84 : decode cX3_faultOfToken 84 = .ok (.invokevirtual 83, 3) := kq.at kqdX3_faultOfToken_82 2 rfl
theorem dX3_faultOfToken_87 : decode cX3_faultOfToken 87 = .ok (.ireturn, 1) := kq.at kqdX3_faultOfToken_82 3 rfl
theorem dX3_faultOfToken_88 : decode cX3_faultOfToken 88 = .ok (.aload_n 0, 1) := kq.at kqdX3_faultOfToken_82 4 rfl
theorem dX3_faultOfToken_89 : decode cX3_faultOfToken 89 = .ok (.iconst 3, 1) := kq.at kqdX3_faultOfToken_82 5 rfl
theorem dX3_faultOfToken_90 : decode cX3_faultOfToken 90 = .ok (.putfield 37, 3) := kq.at kqdX3_faultOfToken_82 6 rfl
theorem dX3_faultOfToken_93 : decode cX3_faultOfToken 93 = .ok (.aload_n 0, 1) := kq.at kqdX3_faultOfToken_82 7 rfl
theorem dX3_faultOfToken_94 : decode cX3_faultOfToken 94 = .ok (.aload_n 1, 1) := kq.at kqdX3_faultOfToken_82 8 rfl
theorem dX3_faultOfToken_95 : decode cX3_faultOfToken 95 = .ok (.ldc 86, 2) := kq.at kqdX3_faultOfToken_82 9 rfl
theorem dX3_faultOfToken_97 : decode cX3_faultOfToken 97 = .ok (.invokevirtual 88, 3) := kq.at kqdX3_faultOfToken_82 10 rfl
theorem dX3_faultOfToken_100 : decode cX3_faultOfToken 100 = .ok (.ifCond .eq 7, 3) := kq.at kqdX3_faultOfToken_82 11 rfl
theorem dX3_faultOfToken_103 : decode cX3_faultOfToken 103 = .ok (.iconst 0, 1) := kq.at kqdX3_faultOfToken_82 12 rfl
theorem dX3_faultOfToken_104 : decode cX3_faultOfToken 104 = .ok (.goto 4, 3) := kq.at kqdX3_faultOfToken_82 13 rfl
theorem dX3_faultOfToken_107 : decode cX3_faultOfToken 107 = .ok (.iconst 2, 1) := kq.at kqdX3_faultOfToken_82 14 rfl
theorem dX3_faultOfToken_108 : decode cX3_faultOfToken 108 = .ok (.ireturn, 1) := kq.at kqdX3_faultOfToken_82 15 rfl
theorem dX3_faultOfToken_109 : decode cX3_faultOfToken 109 = .ok (.aload_n 0, 1) := kq.at kqdX3_faultOfToken_82 16 rfl
theorem dX3_faultOfToken_110 : decode cX3_faultOfToken 110 = .ok (.getfield 25, 3) := kq.at kqdX3_faultOfToken_82 17 rfl
theorem dX3_faultOfToken_113 : decode cX3_faultOfToken 113 = .ok (.iconst 1, 1) := kq.at kqdX3_faultOfToken_82 18 rfl
theorem dX3_faultOfToken_114 : decode cX3_faultOfToken 114 = .ok (.if_icmp .ne 10, 3) := kq.at kqdX3_faultOfToken_82 19 rfl
theorem dX3_faultOfToken_117 : decode cX3_faultOfToken 117 = .ok (.aload_n 0, 1) := kq.at kqdX3_faultOfToken_82 20 rfl
theorem dX3_faultOfToken_118 : decode cX3_faultOfToken 118 = .ok (.invokevirtual 92, 3) := kq.at kqdX3_faultOfToken_82 21 rfl
theorem dX3_faultOfToken_121 : decode cX3_faultOfToken 121 = .ok (.goto 4, 3) := kq.at kqdX3_faultOfToken_82 22 rfl
theorem dX3_faultOfToken_124 : decode cX3_faultOfToken 124 = .ok (.iconst 2, 1) := kq.at kqdX3_faultOfToken_82 23 rfl
theorem kqdX3_faultOfToken_125 : kq cX3_faultOfToken [(125, .ireturn, 1), (126, .aload_n 0, 1), (127, .aload_n 1, 1), (128, .invokevirtual 95, 3), (131, .ireturn, 1), (132, .aload_n 0, 1), (133, .getfield 25, 3), (136, .iconst 2, 1), (137, .if_icmp .ne 10, 3), (140, .aload_n 0, 1), (141, .invokevirtual 98, 3), (144, .goto 4, 3), (147, .iconst 2, 1), (148, .ireturn, 1), (149, .aload_n 0, 1), (150, .getfield 25, 3), (153, .iconst 1, 1), (154, .if_icmp .ne 10, 3), (157, .aload_n 0, 1), (158, .invokevirtual 101, 3), (161, .goto 4, 3), (164, .iconst 2, 1), (165, .ireturn, 1), (166, .aload_n 0, 1)] = true := by decide +kernel
theorem dX3_faultOfToken_125 : decode cX3_faultOfToken 125 = .ok (.ireturn, 1) := kq.at kqdX3_faultOfToken_125 0 rfl
theorem dX3_faultOfToken_126 : decode cX3_faultOfToken 126 = .ok (.aload_n 0, 1) := kq.at kqdX3_faultOfToken_125 1 rfl
theorem dX3_faultOfToken_127 : decode cX3_faultOfToken 127 = .ok (.aload_n 1, 1) := kq.at kqdX3_faultOfToken_125 2 rfl
theorem dX3_faultOfToken_128 : decode cX3_faultOfToken 128 = .ok (.invokevirtual 95, 3) := kq.at kqdX3_faultOfToken_125 3 rfl
theorem dX3_faultOfToken_131 : decode cX3_faultOfToken 131 = .ok (.ireturn, 1) := kq.at kqdX3_faultOfToken_125 4 rfl
theorem dX3_faultOfToken_132 : decode cX3_faultOfToken 132 = .ok (.aload_n 0, 1) := kq.at kqdX3_faultOfToken_125 5 rfl
theorem dX3_faultOfToken_133 : decode cX3_faultOfToken 133 = .ok (.getfield 25, 3) := kq.at kqdX3_faultOfToken_125 6 rfl
theorem dX3_faultOfToken_136 : decode cX3_faultOfToken 136 = .ok (.iconst 2, 1) := kq.at kqdX3_faultOfToken_125 7 rfl
theorem dX3_faultOfToken_137 : decode cX3_faultOfToken 137 = .ok (.if_icmp .ne 10, 3) := kq.at kqdX3_faultOfToken_125 8 rfl
theorem dX3_faultOfToken_140 : decode cX3_faultOfToken 140 = .ok (.aload_n 0, 1) := kq.at kqdX3_faultOfToken_125 9 rfl
theorem dX3_faultOfToken_141 : decode cX3_faultOfToken 141 = .ok (.invokevirtual 98, 3) := kq.at kqdX3_faultOfToken_125 10 rfl
theorem dX3_faultOfToken_144 : decode cX3_faultOfToken 144 = .ok (.goto 4, 3) := kq.at kqdX3_faultOfToken_125 11 rfl
theorem dX3_faultOfToken_147 : decode cX3_faultOfToken 147 = .ok (.iconst 2, 1) := kq.at kqdX3_faultOfToken_125 12 rfl
theorem dX3_faultOfToken_148 : decode cX3_faultOfToken 148 = .ok (.ireturn, 1) := kq.at kqdX3_faultOfToken_125 13 rfl
theorem dX3_faultOfToken_149 : decode cX3_faultOfToken 149 = .ok (.aload_n 0, 1) := kq.at kqdX3_faultOfToken_125 14 rfl
theorem dX3_faultOfToken_150 : decode cX3_faultOfToken 150 = .ok (.getfield 25, 3) := kq.at kqdX3_faultOfToken_125 15 rfl
theorem dX3_faultOfToken_153 : decode cX3_faultOfToken 153 = .ok (.iconst 1, 1) := kq.at kqdX3_faultOfToken_125 16 rfl
theorem dX3_faultOfToken_154 : decode cX3_faultOfToken 154 = .ok (.if_icmp .ne 10, 3) := kq.at kqdX3_faultOfToken_125 17 rfl
theorem dX3_faultOfToken_157 : decode cX3_faultOfToken 157 = .ok (.aload_n 0, 1) := kq.at kqdX3_faultOfToken_125 18 rfl
theorem dX3_faultOfToken_158 : decode cX3_faultOfToken 158 = .ok (.invokevirtual 101, 3) := kq.at kqdX3_faultOfToken_125 19 rfl
theorem dX3_faultOfToken_161 : decode cX3_faultOfToken 161 = .ok (.goto 4, 3) := kq.at kqdX3_faultOfToken_125 20 rfl
theorem dX3_faultOfToken_164 : decode cX3_faultOfToken 164 = .ok (.iconst 2, 1) := kq.at kqdX3_faultOfToken_125 21 rfl
theorem dX3_faultOfToken_165 : decode cX3_faultOfToken 165 = .ok (.ireturn, 1) := kq.at kqdX3_faultOfToken_125 22 rfl
theorem dX3_faultOfToken_166 : decode cX3_faultOfToken 166 = .ok (.aload_n 0, 1) := kq.at kqdX3_faultOfToken_125 23 rfl
theorem kqdX3_faultOfToken_167 : kq cX3_faultOfToken [(167, .iconst 0, 1), (168, .putfield 37, 3), (171, .aload_n 0, 1), (172, .getfield 25, 3), (175, .iconst 2, 1), (176, .if_icmp .ne 7, 3), (179, .iconst 0, 1), (180, .goto 4, 3), (183, .iconst 2, 1), (184, .ireturn, 1)] = true := by decide +kernel
theorem dX3_faultOfToken_167 : decode cX3_faultOfToken 167 = .ok (.iconst 0, 1) := kq.at kqdX3_faultOfToken_167 0 rfl
theorem dX3_faultOfToken_168 : decode cX3_faultOfToken 168 = .ok (.putfield 37, 3) := kq.at kqdX3_faultOfToken_167 1 rfl
theorem dX3_faultOfToken_171 : decode cX3_faultOfToken 171 = .ok (.aload_n 0, 1) := kq.at kqdX3_faultOfToken_167 2 rfl
theorem dX3_faultOfToken_172 : decode cX3_faultOfToken 172 = .ok (.getfield 25, 3) := kq.at kqdX3_faultOfToken_167 3 rfl
theorem dX3_faultOfToken_175 : decode cX3_faultOfToken 175 = .ok (.iconst 2, 1) := kq.at kqdX3_faultOfToken_167 4 rfl
theorem dX3_faultOfToken_176 : decode cX3_faultOfToken 176 = .ok (.if_icmp .ne 7, 3) := kq.at kqdX3_faultOfToken_167 5 rfl
theorem dX3_faultOfToken_179 : decode cX3_faultOfToken 179 = .ok (.iconst 0, 1) := kq.at kqdX3_faultOfToken_167 6 rfl
theorem dX3_faultOfToken_180 : decode cX3_faultOfToken 180 = .ok (.goto 4, 3) := kq.at kqdX3_faultOfToken_167 7 rfl
theorem dX3_faultOfToken_183 : decode cX3_faultOfToken 183 = .ok (.iconst 2, 1) := kq.at kqdX3_faultOfToken_167 8 rfl
theorem dX3_faultOfToken_184 : decode cX3_faultOfToken 184 = .ok (.ireturn, 1) := kq.at kqdX3_faultOfToken_167 9 rfl
theorem kqdX3_takePart_0 : kq cX3_takePart [(0, .aload_n 0, 1), (1, .aload_n 1, 1), (2, .ldc 104, 2), (4, .invokevirtual 88, 3), (7, .ifCond .eq 27, 3), (10, .aload_n 0, 1), (11, .iconst 1, 1), (12, .putfield 37, 3), (15, .aload_n 0, 1), (16, .getfield 12, 3), (19, .getfield 106, 3), (22, .bipush 24, 2), (24, .if_icmp .lt 8, 3), (27, .bipush 6, 2), (29, .goto 4, 3), (32, .iconst 0, 1), (33, .ireturn, 1), (34, .aload_n 0, 1), (35, .aload_n 0, 1), (36, .aload_n 1, 1), (37, .invokevirtual 109, 3), (40, .putfield 40, 3), (43, .aload_n 0, 1), (44, .getfield 40, 3)] = true := by decide +kernel
theorem dX3_takePart_0 : decode cX3_takePart 0 = .ok (.aload_n 0, 1) := kq.at kqdX3_takePart_0 0 rfl
theorem dX3_takePart_1 : decode cX3_takePart 1 = .ok (.aload_n 1, 1) := kq.at kqdX3_takePart_0 1 rfl
theorem dX3_takePart_2 : decode cX3_takePart 2 = .ok (.ldc 104, 2) := kq.at kqdX3_takePart_0 2 rfl
theorem dX3_takePart_4 : decode cX3_takePart 4 = .ok (.invokevirtual 88, 3) := kq.at kqdX3_takePart_0 3 rfl
theorem dX3_takePart_7 : decode cX3_takePart 7 = .ok (.ifCond .eq 27, 3) := kq.at kqdX3_takePart_0 4 rfl
theorem dX3_takePart_10 : decode cX3_takePart 10 = .ok (.aload_n 0, 1) := kq.at kqdX3_takePart_0 5 rfl
theorem dX3_takePart_11 : decode cX3_takePart 11 = .ok (.iconst 1, 1) := kq.at kqdX3_takePart_0 6 rfl
theorem dX3_takePart_12 : decode cX3_takePart 12 = .ok (.putfield 37, 3) := kq.at kqdX3_takePart_0 7 rfl
theorem dX3_takePart_15 : decode cX3_takePart 15 = .ok (.aload_n 0, 1) := kq.at kqdX3_takePart_0 8 rfl
theorem dX3_takePart_16 : decode cX3_takePart 16 = .ok (.getfield 12, 3) := kq.at kqdX3_takePart_0 9 rfl
theorem dX3_takePart_19 : decode cX3_takePart 19 = .ok (.getfield 106, 3) := kq.at kqdX3_takePart_0 10 rfl
theorem dX3_takePart_22 : decode cX3_takePart 22 = .ok (.bipush 24, 2) := kq.at kqdX3_takePart_0 11 rfl
theorem dX3_takePart_24 : decode cX3_takePart 24 = .ok (.if_icmp .lt 8, 3) := kq.at kqdX3_takePart_0 12 rfl
theorem dX3_takePart_27 : decode cX3_takePart 27 = .ok (.bipush 6, 2) := kq.at kqdX3_takePart_0 13 rfl
theorem dX3_takePart_29 : decode cX3_takePart 29 = .ok (.goto 4, 3) := kq.at kqdX3_takePart_0 14 rfl
theorem dX3_takePart_32 : decode cX3_takePart 32 = .ok (.iconst 0, 1) := kq.at kqdX3_takePart_0 15 rfl
theorem dX3_takePart_33 : decode cX3_takePart 33 = .ok (.ireturn, 1) := kq.at kqdX3_takePart_0 16 rfl
theorem dX3_takePart_34 : decode cX3_takePart 34 = .ok (.aload_n 0, 1) := kq.at kqdX3_takePart_0 17 rfl
theorem dX3_takePart_35 : decode cX3_takePart 35 = .ok (.aload_n 0, 1) := kq.at kqdX3_takePart_0 18 rfl
theorem dX3_takePart_36 : decode cX3_takePart 36 = .ok (.aload_n 1, 1) := kq.at kqdX3_takePart_0 19 rfl
theorem dX3_takePart_37 : decode cX3_takePart 37 = .ok (.invokevirtual 109, 3) := kq.at kqdX3_takePart_0 20 rfl
theorem dX3_takePart_40 : decode cX3_takePart 40 = .ok (.putfield 40, 3) := kq.at kqdX3_takePart_0 21 rfl
theorem dX3_takePart_43 : decode cX3_takePart 43 = .ok (.aload_n 0, 1) := kq.at kqdX3_takePart_0 22 rfl
theorem dX3_takePart_44 : decode cX3_takePart 44 = .ok (.getfield 40, 3) := kq.at kqdX3_takePart_0 23 rfl
theorem kqdX3_takePart_47 : kq cX3_takePart [(47, .iconst (-1), 1), (48, .if_icmp .ne 5, 3), (51, .iconst 2, 1), (52, .ireturn, 1), (53, .iconst 1, 1), (54, .aload_n 0, 1), (55, .getfield 40, 3), (58, .ishl, 1), (59, .istore_n 2, 1), (60, .aload_n 0, 1), (61, .getfield 43, 3), (64, .iload_n 2, 1), (65, .iand, 1), (66, .ifCond .eq 5, 3), (69, .iconst 5, 1), (70, .ireturn, 1), (71, .aload_n 0, 1), (72, .dup, 1), (73, .getfield 43, 3), (76, .iload_n 2, 1), (77, .ior, 1), (78, .putfield 43, 3), (81, .aload_n 0, 1), (82, .bipush 6, 2)] = true := by decide +kernel
theorem dX3_takePart_47 : decode cX3_takePart 47 = .ok (.iconst (-1), 1) := kq.at kqdX3_takePart_47 0 rfl
theorem dX3_takePart_48 : decode cX3_takePart 48 = .ok (.if_icmp .ne 5, 3) := kq.at kqdX3_takePart_47 1 rfl
theorem dX3_takePart_51 : decode cX3_takePart 51 = .ok (.iconst 2, 1) := kq.at kqdX3_takePart_47 2 rfl
theorem dX3_takePart_52 : decode cX3_takePart 52 = .ok (.ireturn, 1) := kq.at kqdX3_takePart_47 3 rfl
theorem dX3_takePart_53 : decode cX3_takePart 53 = .ok (.iconst 1, 1) := kq.at kqdX3_takePart_47 4 rfl
theorem dX3_takePart_54 : decode cX3_takePart 54 = .ok (.aload_n 0, 1) := kq.at kqdX3_takePart_47 5 rfl
theorem dX3_takePart_55 : decode cX3_takePart 55 = .ok (.getfield 40, 3) := kq.at kqdX3_takePart_47 6 rfl
theorem dX3_takePart_58 : decode cX3_takePart 58 = .ok (.ishl, 1) := kq.at kqdX3_takePart_47 7 rfl
theorem dX3_takePart_59 : decode cX3_takePart 59 = .ok (.istore_n 2, 1) := kq.at kqdX3_takePart_47 8 rfl
theorem dX3_takePart_60 : decode cX3_takePart 60 = .ok (.aload_n 0, 1) := kq.at kqdX3_takePart_47 9 rfl
theorem dX3_takePart_61 : decode cX3_takePart 61 = .ok (.getfield 43, 3) := kq.at kqdX3_takePart_47 10 rfl
theorem dX3_takePart_64 : decode cX3_takePart 64 = .ok (.iload_n 2, 1) := kq.at kqdX3_takePart_47 11 rfl
theorem dX3_takePart_65 : decode cX3_takePart 65 = .ok (.iand, 1) := kq.at kqdX3_takePart_47 12 rfl
theorem dX3_takePart_66 : decode cX3_takePart 66 = .ok (.ifCond .eq 5, 3) := kq.at kqdX3_takePart_47 13 rfl
theorem dX3_takePart_69 : decode cX3_takePart 69 = .ok (.iconst 5, 1) := kq.at kqdX3_takePart_47 14 rfl
theorem dX3_takePart_70 : decode cX3_takePart 70 = .ok (.ireturn, 1) := kq.at kqdX3_takePart_47 15 rfl
theorem dX3_takePart_71 : decode cX3_takePart 71 = .ok (.aload_n 0, 1) := kq.at kqdX3_takePart_47 16 rfl
theorem dX3_takePart_72 : decode cX3_takePart 72 = .ok (.dup, 1) := kq.at kqdX3_takePart_47 17 rfl
theorem dX3_takePart_73 : decode cX3_takePart 73 = .ok (.getfield 43, 3) := kq.at kqdX3_takePart_47 18 rfl
theorem dX3_takePart_76 : decode cX3_takePart 76 = .ok (.iload_n 2, 1) := kq.at kqdX3_takePart_47 19 rfl
theorem dX3_takePart_77 : decode cX3_takePart 77 = .ok (.ior, 1) := kq.at kqdX3_takePart_47 20 rfl
theorem dX3_takePart_78 : decode cX3_takePart 78 = .ok (.putfield 43, 3) := kq.at kqdX3_takePart_47 21 rfl
theorem dX3_takePart_81 : decode cX3_takePart 81 = .ok (.aload_n 0, 1) := kq.at kqdX3_takePart_47 22 rfl
theorem dX3_takePart_82 : decode cX3_takePart 82 = .ok (.bipush 6, 2) := kq.at kqdX3_takePart_47 23 rfl
theorem kqdX3_takePart_84 : kq cX3_takePart [(84, .putfield 37, 3), (87, .iconst 0, 1), (88, .ireturn, 1)] = true := by decide +kernel
theorem dX3_takePart_84 : decode cX3_takePart 84 = .ok (.putfield 37, 3) := kq.at kqdX3_takePart_84 0 rfl
theorem dX3_takePart_87 : decode cX3_takePart 87 = .ok (.iconst 0, 1) := kq.at kqdX3_takePart_84 1 rfl
theorem dX3_takePart_88 : decode cX3_takePart 88 = .ok (.ireturn, 1) := kq.at kqdX3_takePart_84 2 rfl
theorem kqdX3_signNamed_0 : kq cX3_signNamed [(0, .aload_n 0, 1), (1, .aload_n 1, 1), (2, .ldc 112, 2), (4, .invokevirtual 88, 3), (7, .ifCond .eq 5, 3), (10, .iconst 0, 1), (11, .ireturn, 1), (12, .aload_n 0, 1), (13, .aload_n 1, 1), (14, .ldc 114, 2), (16, .invokevirtual 88, 3), (19, .ifCond .eq 5, 3), (22, .iconst 1, 1), (23, .ireturn, 1), (24, .aload_n 0, 1), (25, .aload_n 1, 1), (26, .ldc 116, 2), (28, .invokevirtual 88, 3), (31, .ifCond .eq 5, 3), (34, .iconst 2, 1), (35, .ireturn, 1), (36, .aload_n 0, 1), (37, .aload_n 1, 1), (38, .ldc 118, 2)] = true := by decide +kernel
theorem dX3_signNamed_0 : decode cX3_signNamed 0 = .ok (.aload_n 0, 1) := kq.at kqdX3_signNamed_0 0 rfl
theorem dX3_signNamed_1 : decode cX3_signNamed 1 = .ok (.aload_n 1, 1) := kq.at kqdX3_signNamed_0 1 rfl
theorem dX3_signNamed_2 : decode cX3_signNamed 2 = .ok (.ldc 112, 2) := kq.at kqdX3_signNamed_0 2 rfl
theorem dX3_signNamed_4 : decode cX3_signNamed 4 = .ok (.invokevirtual 88, 3) := kq.at kqdX3_signNamed_0 3 rfl
theorem dX3_signNamed_7 : decode cX3_signNamed 7 = .ok (.ifCond .eq 5, 3) := kq.at kqdX3_signNamed_0 4 rfl
theorem dX3_signNamed_10 : decode cX3_signNamed 10 = .ok (.iconst 0, 1) := kq.at kqdX3_signNamed_0 5 rfl
theorem dX3_signNamed_11 : decode cX3_signNamed 11 = .ok (.ireturn, 1) := kq.at kqdX3_signNamed_0 6 rfl
theorem dX3_signNamed_12 : decode cX3_signNamed 12 = .ok (.aload_n 0, 1) := kq.at kqdX3_signNamed_0 7 rfl
theorem dX3_signNamed_13 : decode cX3_signNamed 13 = .ok (.aload_n 1, 1) := kq.at kqdX3_signNamed_0 8 rfl
theorem dX3_signNamed_14 : decode cX3_signNamed 14 = .ok (.ldc 114, 2) := kq.at kqdX3_signNamed_0 9 rfl
theorem dX3_signNamed_16 : decode cX3_signNamed 16 = .ok (.invokevirtual 88, 3) := kq.at kqdX3_signNamed_0 10 rfl
theorem dX3_signNamed_19 : decode cX3_signNamed 19 = .ok (.ifCond .eq 5, 3) := kq.at kqdX3_signNamed_0 11 rfl
theorem dX3_signNamed_22 : decode cX3_signNamed 22 = .ok (.iconst 1, 1) := kq.at kqdX3_signNamed_0 12 rfl
theorem dX3_signNamed_23 : decode cX3_signNamed 23 = .ok (.ireturn, 1) := kq.at kqdX3_signNamed_0 13 rfl
theorem dX3_signNamed_24 : decode cX3_signNamed 24 = .ok (.aload_n 0, 1) := kq.at kqdX3_signNamed_0 14 rfl
theorem dX3_signNamed_25 : decode cX3_signNamed 25 = .ok (.aload_n 1, 1) := kq.at kqdX3_signNamed_0 15 rfl
theorem dX3_signNamed_26 : decode cX3_signNamed 26 = .ok (.ldc 116, 2) := kq.at kqdX3_signNamed_0 16 rfl
theorem dX3_signNamed_28 : decode cX3_signNamed 28 = .ok (.invokevirtual 88, 3) := kq.at kqdX3_signNamed_0 17 rfl
theorem dX3_signNamed_31 : decode cX3_signNamed 31 = .ok (.ifCond .eq 5, 3) := kq.at kqdX3_signNamed_0 18 rfl
theorem dX3_signNamed_34 : decode cX3_signNamed 34 = .ok (.iconst 2, 1) := kq.at kqdX3_signNamed_0 19 rfl
theorem dX3_signNamed_35 : decode cX3_signNamed 35 = .ok (.ireturn, 1) := kq.at kqdX3_signNamed_0 20 rfl
theorem dX3_signNamed_36 : decode cX3_signNamed 36 = .ok (.aload_n 0, 1) := kq.at kqdX3_signNamed_0 21 rfl
theorem dX3_signNamed_37 : decode cX3_signNamed 37 = .ok (.aload_n 1, 1) := kq.at kqdX3_signNamed_0 22 rfl
theorem dX3_signNamed_38 : decode cX3_signNamed 38 = .ok (.ldc 118, 2) := kq.at kqdX3_signNamed_0 23 rfl
theorem kqdX3_signNamed_40 : kq cX3_signNamed [(40, .invokevirtual 88, 3), (43, .ifCond .eq 5, 3), (46, .iconst 3, 1), (47, .ireturn, 1), (48, .aload_n 0, 1), (49, .aload_n 1, 1), (50, .ldc 120, 2), (52, .invokevirtual 88, 3), (55, .ifCond .eq 7, 3), (58, .iconst 4, 1), (59, .goto 4, 3), (62, .iconst (-1), 1), (63, .ireturn, 1)] = true := by decide +kernel
theorem dX3_signNamed_40 : decode cX3_signNamed 40 = .ok (.invokevirtual 88, 3) := kq.at kqdX3_signNamed_40 0 rfl
theorem dX3_signNamed_43 : decode cX3_signNamed 43 = .ok (.ifCond .eq 5, 3) := kq.at kqdX3_signNamed_40 1 rfl
theorem dX3_signNamed_46 : decode cX3_signNamed 46 = .ok (.iconst 3, 1) := kq.at kqdX3_signNamed_40 2 rfl
theorem dX3_signNamed_47 : decode cX3_signNamed 47 = .ok (.ireturn, 1) := kq.at kqdX3_signNamed_40 3 rfl
theorem dX3_signNamed_48 : decode cX3_signNamed 48 = .ok (.aload_n 0, 1) := kq.at kqdX3_signNamed_40 4 rfl
theorem dX3_signNamed_49 : decode cX3_signNamed 49 = .ok (.aload_n 1, 1) := kq.at kqdX3_signNamed_40 5 rfl
theorem dX3_signNamed_50 : decode cX3_signNamed 50 = .ok (.ldc 120, 2) := kq.at kqdX3_signNamed_40 6 rfl
theorem dX3_signNamed_52 : decode cX3_signNamed 52 = .ok (.invokevirtual 88, 3) := kq.at kqdX3_signNamed_40 7 rfl
theorem dX3_signNamed_55 : decode cX3_signNamed 55 = .ok (.ifCond .eq 7, 3) := kq.at kqdX3_signNamed_40 8 rfl
theorem dX3_signNamed_58 : decode cX3_signNamed 58 = .ok (.iconst 4, 1) := kq.at kqdX3_signNamed_40 9 rfl
theorem dX3_signNamed_59 : decode cX3_signNamed 59 = .ok (.goto 4, 3) := kq.at kqdX3_signNamed_40 10 rfl
theorem dX3_signNamed_62 : decode cX3_signNamed 62 = .ok (.iconst (-1), 1) := kq.at kqdX3_signNamed_40 11 rfl
theorem dX3_signNamed_63 : decode cX3_signNamed 63 = .ok (.ireturn, 1) := kq.at kqdX3_signNamed_40 12 rfl
theorem kqdX3_takeLetters_0 : kq cX3_takeLetters [(0, .aload_n 0, 1), (1, .getfield 31, 3), (4, .aload_n 0, 1), (5, .getfield 28, 3), (8, .isub, 1), (9, .istore_n 2, 1), (10, .aload_n 0, 1), (11, .getfield 25, 3), (14, .ifCond .ne 9, 3), (17, .iload_n 2, 1), (18, .bipush 6, 2), (20, .if_icmp .le 5, 3), (23, .iconst 2, 1), (24, .ireturn, 1), (25, .aload_n 0, 1), (26, .getfield 12, 3), (29, .getfield 106, 3), (32, .istore_n 3, 1), (33, .aload_n 0, 1), (34, .getfield 12, 3), (37, .getfield 122, 3), (40, .iload_n 3, 1), (41, .iload_n 2, 1), (42, .iastore, 1)] = true := by decide +kernel
theorem dX3_takeLetters_0 : decode cX3_takeLetters 0 = .ok (.aload_n 0, 1) := kq.at kqdX3_takeLetters_0 0 rfl
theorem dX3_takeLetters_1 : decode cX3_takeLetters 1 = .ok (.getfield 31, 3) := kq.at kqdX3_takeLetters_0 1 rfl
theorem dX3_takeLetters_4 : decode cX3_takeLetters 4 = .ok (.aload_n 0, 1) := kq.at kqdX3_takeLetters_0 2 rfl
theorem dX3_takeLetters_5 : decode cX3_takeLetters 5 = .ok (.getfield 28, 3) := kq.at kqdX3_takeLetters_0 3 rfl
theorem dX3_takeLetters_8 : decode cX3_takeLetters 8 = .ok (.isub, 1) := kq.at kqdX3_takeLetters_0 4 rfl
theorem dX3_takeLetters_9 : decode cX3_takeLetters 9 = .ok (.istore_n 2, 1) := kq.at kqdX3_takeLetters_0 5 rfl
theorem dX3_takeLetters_10 : decode cX3_takeLetters 10 = .ok (.aload_n 0, 1) := kq.at kqdX3_takeLetters_0 6 rfl
theorem dX3_takeLetters_11 : decode cX3_takeLetters 11 = .ok (.getfield 25, 3) := kq.at kqdX3_takeLetters_0 7 rfl
theorem dX3_takeLetters_14 : decode cX3_takeLetters 14 = .ok (.ifCond .ne 9, 3) := kq.at kqdX3_takeLetters_0 8 rfl
theorem dX3_takeLetters_17 : decode cX3_takeLetters 17 = .ok (.iload_n 2, 1) := kq.at kqdX3_takeLetters_0 9 rfl
theorem dX3_takeLetters_18 : decode cX3_takeLetters 18 = .ok (.bipush 6, 2) := kq.at kqdX3_takeLetters_0 10 rfl
theorem dX3_takeLetters_20 : decode cX3_takeLetters 20 = .ok (.if_icmp .le 5, 3) := kq.at kqdX3_takeLetters_0 11 rfl
theorem dX3_takeLetters_23 : decode cX3_takeLetters 23 = .ok (.iconst 2, 1) := kq.at kqdX3_takeLetters_0 12 rfl
theorem dX3_takeLetters_24 : decode cX3_takeLetters 24 = .ok (.ireturn, 1) := kq.at kqdX3_takeLetters_0 13 rfl
theorem dX3_takeLetters_25 : decode cX3_takeLetters 25 = .ok (.aload_n 0, 1) := kq.at kqdX3_takeLetters_0 14 rfl
theorem dX3_takeLetters_26 : decode cX3_takeLetters 26 = .ok (.getfield 12, 3) := kq.at kqdX3_takeLetters_0 15 rfl
theorem dX3_takeLetters_29 : decode cX3_takeLetters 29 = .ok (.getfield 106, 3) := kq.at kqdX3_takeLetters_0 16 rfl
theorem dX3_takeLetters_32 : decode cX3_takeLetters 32 = .ok (.istore_n 3, 1) := kq.at kqdX3_takeLetters_0 17 rfl
theorem dX3_takeLetters_33 : decode cX3_takeLetters 33 = .ok (.aload_n 0, 1) := kq.at kqdX3_takeLetters_0 18 rfl
theorem dX3_takeLetters_34 : decode cX3_takeLetters 34 = .ok (.getfield 12, 3) := kq.at kqdX3_takeLetters_0 19 rfl
theorem dX3_takeLetters_37 : decode cX3_takeLetters 37 = .ok (.getfield 122, 3) := kq.at kqdX3_takeLetters_0 20 rfl
theorem dX3_takeLetters_40 : decode cX3_takeLetters 40 = .ok (.iload_n 3, 1) := kq.at kqdX3_takeLetters_0 21 rfl
theorem dX3_takeLetters_41 : decode cX3_takeLetters 41 = .ok (.iload_n 2, 1) := kq.at kqdX3_takeLetters_0 22 rfl
theorem dX3_takeLetters_42 : decode cX3_takeLetters 42 = .ok (.iastore, 1) := kq.at kqdX3_takeLetters_0 23 rfl
theorem kqdX3_takeLetters_43 : kq cX3_takeLetters [(43, .aload_n 0, 1), (44, .getfield 12, 3), (47, .getfield 126, 3), (50, .iload_n 3, 1), (51, .iconst 0, 1), (52, .iastore, 1), (53, .aload_n 0, 1), (54, .getfield 12, 3), (57, .getfield 129, 3), (60, .iload_n 3, 1), (61, .iconst 0, 1), (62, .iastore, 1), (63, .iconst 0, 1), (64, .istore 4, 2), (66, .iload 4, 2), (68, .iload_n 2, 1), (69, .if_icmp .ge 31, 3), (72, .aload_n 0, 1), (73, .getfield 12, 3), (76, .iload_n 3, 1), (77, .iload 4, 2), (79, .aload_n 1, 1), (80, .aload_n 0, 1), (81, .getfield 28, 3)] = true := by decide +kernel
theorem dX3_takeLetters_43 : decode cX3_takeLetters 43 = .ok (.aload_n 0, 1) := kq.at kqdX3_takeLetters_43 0 rfl
theorem dX3_takeLetters_44 : decode cX3_takeLetters 44 = .ok (.getfield 12, 3) := kq.at kqdX3_takeLetters_43 1 rfl
theorem dX3_takeLetters_47 : decode cX3_takeLetters 47 = .ok (.getfield 126, 3) := kq.at kqdX3_takeLetters_43 2 rfl
theorem dX3_takeLetters_50 : decode cX3_takeLetters 50 = .ok (.iload_n 3, 1) := kq.at kqdX3_takeLetters_43 3 rfl
theorem dX3_takeLetters_51 : decode cX3_takeLetters 51 = .ok (.iconst 0, 1) := kq.at kqdX3_takeLetters_43 4 rfl
theorem dX3_takeLetters_52 : decode cX3_takeLetters 52 = .ok (.iastore, 1) := kq.at kqdX3_takeLetters_43 5 rfl
theorem dX3_takeLetters_53 : decode cX3_takeLetters 53 = .ok (.aload_n 0, 1) := kq.at kqdX3_takeLetters_43 6 rfl
theorem dX3_takeLetters_54 : decode cX3_takeLetters 54 = .ok (.getfield 12, 3) := kq.at kqdX3_takeLetters_43 7 rfl
theorem dX3_takeLetters_57 : decode cX3_takeLetters 57 = .ok (.getfield 129, 3) := kq.at kqdX3_takeLetters_43 8 rfl
theorem dX3_takeLetters_60 : decode cX3_takeLetters 60 = .ok (.iload_n 3, 1) := kq.at kqdX3_takeLetters_43 9 rfl
theorem dX3_takeLetters_61 : decode cX3_takeLetters 61 = .ok (.iconst 0, 1) := kq.at kqdX3_takeLetters_43 10 rfl
theorem dX3_takeLetters_62 : decode cX3_takeLetters 62 = .ok (.iastore, 1) := kq.at kqdX3_takeLetters_43 11 rfl
theorem dX3_takeLetters_63 : decode cX3_takeLetters 63 = .ok (.iconst 0, 1) := kq.at kqdX3_takeLetters_43 12 rfl
theorem dX3_takeLetters_64 : decode cX3_takeLetters 64 = .ok (.istore 4, 2) := kq.at kqdX3_takeLetters_43 13 rfl
theorem dX3_takeLetters_66 : decode cX3_takeLetters 66 = .ok (.iload 4, 2) := kq.at kqdX3_takeLetters_43 14 rfl
theorem dX3_takeLetters_68 : decode cX3_takeLetters 68 = .ok (.iload_n 2, 1) := kq.at kqdX3_takeLetters_43 15 rfl
theorem dX3_takeLetters_69 : decode cX3_takeLetters 69 = .ok (.if_icmp .ge 31, 3) := kq.at kqdX3_takeLetters_43 16 rfl
theorem dX3_takeLetters_72 : decode cX3_takeLetters 72 = .ok (.aload_n 0, 1) := kq.at kqdX3_takeLetters_43 17 rfl
theorem dX3_takeLetters_73 : decode cX3_takeLetters 73 = .ok (.getfield 12, 3) := kq.at kqdX3_takeLetters_43 18 rfl
theorem dX3_takeLetters_76 : decode cX3_takeLetters 76 = .ok (.iload_n 3, 1) := kq.at kqdX3_takeLetters_43 19 rfl
theorem dX3_takeLetters_77 : decode cX3_takeLetters 77 = .ok (.iload 4, 2) := kq.at kqdX3_takeLetters_43 20 rfl
theorem dX3_takeLetters_79 : decode cX3_takeLetters 79 = .ok (.aload_n 1, 1) := kq.at kqdX3_takeLetters_43 21 rfl
theorem dX3_takeLetters_80 : decode cX3_takeLetters 80 = .ok (.aload_n 0, 1) := kq.at kqdX3_takeLetters_43 22 rfl
theorem dX3_takeLetters_81 : decode cX3_takeLetters 81 = .ok (.getfield 28, 3) := kq.at kqdX3_takeLetters_43 23 rfl
theorem kqdX3_takeLetters_84 : kq cX3_takeLetters [(84, .iload 4, 2), (86, .iadd, 1), (87, .iaload, 1), (88, .invokestatic 132, 3), (91, .invokevirtual 136, 3), (94, .iinc 4 1, 3), (97, .goto (-31), 3), (100, .aload_n 0, 1), (101, .iconst 2, 1), (102, .putfield 37, 3), (105, .iconst 0, 1), (106, .ireturn, 1)] = true := by decide +kernel
theorem dX3_takeLetters_84 : decode cX3_takeLetters 84 = .ok (.iload 4, 2) := kq.at kqdX3_takeLetters_84 0 rfl
theorem dX3_takeLetters_86 : decode cX3_takeLetters 86 = .ok (.iadd, 1) := kq.at kqdX3_takeLetters_84 1 rfl
theorem dX3_takeLetters_87 : decode cX3_takeLetters 87 = .ok (.iaload, 1) := kq.at kqdX3_takeLetters_84 2 rfl
theorem dX3_takeLetters_88 : decode cX3_takeLetters 88 = .ok (.invokestatic 132, 3) := kq.at kqdX3_takeLetters_84 3 rfl
theorem dX3_takeLetters_91 : decode cX3_takeLetters 91 = .ok (.invokevirtual 136, 3) := kq.at kqdX3_takeLetters_84 4 rfl
theorem dX3_takeLetters_94 : decode cX3_takeLetters 94 = .ok (.iinc 4 1, 3) := kq.at kqdX3_takeLetters_84 5 rfl
theorem dX3_takeLetters_97 : decode cX3_takeLetters 97 = .ok (.goto (-31), 3) := kq.at kqdX3_takeLetters_84 6 rfl
theorem dX3_takeLetters_100 : decode cX3_takeLetters 100 = .ok (.aload_n 0, 1) := kq.at kqdX3_takeLetters_84 7 rfl
theorem dX3_takeLetters_101 : decode cX3_takeLetters 101 = .ok (.iconst 2, 1) := kq.at kqdX3_takeLetters_84 8 rfl
theorem dX3_takeLetters_102 : decode cX3_takeLetters 102 = .ok (.putfield 37, 3) := kq.at kqdX3_takeLetters_84 9 rfl
theorem dX3_takeLetters_105 : decode cX3_takeLetters 105 = .ok (.iconst 0, 1) := kq.at kqdX3_takeLetters_84 10 rfl
theorem dX3_takeLetters_106 : decode cX3_takeLetters 106 = .ok (.ireturn, 1) := kq.at kqdX3_takeLetters_84 11 rfl
theorem kqdX3_takeCell_0 : kq cX3_takeCell [(0, .aload_n 0, 1), (1, .getfield 34, 3), (4, .iconst 1, 1), (5, .if_icmp .lt 12, 3), (8, .aload_n 0, 1), (9, .getfield 34, 3), (12, .bipush 63, 2), (14, .if_icmp .le 5, 3), (17, .iconst 4, 1), (18, .ireturn, 1), (19, .aload_n 0, 1), (20, .getfield 12, 3), (23, .getfield 106, 3), (26, .istore_n 1, 1), (27, .aload_n 0, 1), (28, .getfield 12, 3), (31, .getfield 126, 3), (34, .iload_n 1, 1), (35, .iaload, 1), (36, .istore_n 2, 1), (37, .iload_n 2, 1), (38, .iconst 3, 1), (39, .if_icmp .lt 5, 3), (42, .iconst 5, 1)] = true := by decide +kernel
theorem dX3_takeCell_0 : decode cX3_takeCell 0 = .ok (.aload_n 0, 1) := kq.at kqdX3_takeCell_0 0 rfl
theorem dX3_takeCell_1 : decode cX3_takeCell 1 = .ok (.getfield 34, 3) := kq.at kqdX3_takeCell_0 1 rfl
theorem dX3_takeCell_4 : decode cX3_takeCell 4 = .ok (.iconst 1, 1) := kq.at kqdX3_takeCell_0 2 rfl
theorem dX3_takeCell_5 : decode cX3_takeCell 5 = .ok (.if_icmp .lt 12, 3) := kq.at kqdX3_takeCell_0 3 rfl
theorem dX3_takeCell_8 : decode cX3_takeCell 8 = .ok (.aload_n 0, 1) := kq.at kqdX3_takeCell_0 4 rfl
theorem dX3_takeCell_9 : decode cX3_takeCell 9 = .ok (.getfield 34, 3) := kq.at kqdX3_takeCell_0 5 rfl
theorem dX3_takeCell_12 : decode cX3_takeCell 12 = .ok (.bipush 63, 2) := kq.at kqdX3_takeCell_0 6 rfl
theorem dX3_takeCell_14 : decode cX3_takeCell 14 = .ok (.if_icmp .le 5, 3) := kq.at kqdX3_takeCell_0 7 rfl
theorem dX3_takeCell_17 : decode cX3_takeCell 17 = .ok (.iconst 4, 1) := kq.at kqdX3_takeCell_0 8 rfl
theorem dX3_takeCell_18 : decode cX3_takeCell 18 = .ok (.ireturn, 1) := kq.at kqdX3_takeCell_0 9 rfl
theorem dX3_takeCell_19 : decode cX3_takeCell 19 = .ok (.aload_n 0, 1) := kq.at kqdX3_takeCell_0 10 rfl
theorem dX3_takeCell_20 : decode cX3_takeCell 20 = .ok (.getfield 12, 3) := kq.at kqdX3_takeCell_0 11 rfl
theorem dX3_takeCell_23 : decode cX3_takeCell 23 = .ok (.getfield 106, 3) := kq.at kqdX3_takeCell_0 12 rfl
theorem dX3_takeCell_26 : decode cX3_takeCell 26 = .ok (.istore_n 1, 1) := kq.at kqdX3_takeCell_0 13 rfl
theorem dX3_takeCell_27 : decode cX3_takeCell 27 = .ok (.aload_n 0, 1) := kq.at kqdX3_takeCell_0 14 rfl
theorem dX3_takeCell_28 : decode cX3_takeCell 28 = .ok (.getfield 12, 3) := kq.at kqdX3_takeCell_0 15 rfl
theorem dX3_takeCell_31 : decode cX3_takeCell 31 = .ok (.getfield 126, 3) := kq.at kqdX3_takeCell_0 16 rfl
theorem dX3_takeCell_34 : decode cX3_takeCell 34 = .ok (.iload_n 1, 1) := kq.at kqdX3_takeCell_0 17 rfl
theorem dX3_takeCell_35 : decode cX3_takeCell 35 = .ok (.iaload, 1) := kq.at kqdX3_takeCell_0 18 rfl
theorem dX3_takeCell_36 : decode cX3_takeCell 36 = .ok (.istore_n 2, 1) := kq.at kqdX3_takeCell_0 19 rfl
theorem dX3_takeCell_37 : decode cX3_takeCell 37 = .ok (.iload_n 2, 1) := kq.at kqdX3_takeCell_0 20 rfl
theorem dX3_takeCell_38 : decode cX3_takeCell 38 = .ok (.iconst 3, 1) := kq.at kqdX3_takeCell_0 21 rfl
theorem dX3_takeCell_39 : decode cX3_takeCell 39 = .ok (.if_icmp .lt 5, 3) := kq.at kqdX3_takeCell_0 22 rfl
theorem dX3_takeCell_42 : decode cX3_takeCell 42 = .ok (.iconst 5, 1) := kq.at kqdX3_takeCell_0 23 rfl
theorem kqdX3_takeCell_43 : kq cX3_takeCell [(43, .ireturn, 1), (44, .aload_n 0, 1), (45, .getfield 12, 3), (48, .iload_n 1, 1), (49, .iload_n 2, 1), (50, .aload_n 0, 1), (51, .getfield 34, 3), (54, .invokevirtual 140, 3), (57, .aload_n 0, 1), (58, .getfield 12, 3), (61, .getfield 126, 3), (64, .iload_n 1, 1), (65, .iload_n 2, 1), (66, .iconst 1, 1), (67, .iadd, 1), (68, .iastore, 1), (69, .aload_n 0, 1), (70, .iconst 4, 1), (71, .putfield 37, 3), (74, .iconst 0, 1), (75, .ireturn, 1)] = true := by decide +kernel
theorem dX3_takeCell_43 : decode cX3_takeCell 43 = .ok (.ireturn, 1) := kq.at kqdX3_takeCell_43 0 rfl
theorem dX3_takeCell_44 : decode cX3_takeCell 44 = .ok (.aload_n 0, 1) := kq.at kqdX3_takeCell_43 1 rfl
theorem dX3_takeCell_45 : decode cX3_takeCell 45 = .ok (.getfield 12, 3) := kq.at kqdX3_takeCell_43 2 rfl
theorem dX3_takeCell_48 : decode cX3_takeCell 48 = .ok (.iload_n 1, 1) := kq.at kqdX3_takeCell_43 3 rfl
theorem dX3_takeCell_49 : decode cX3_takeCell 49 = .ok (.iload_n 2, 1) := kq.at kqdX3_takeCell_43 4 rfl
theorem dX3_takeCell_50 : decode cX3_takeCell 50 = .ok (.aload_n 0, 1) := kq.at kqdX3_takeCell_43 5 rfl
theorem dX3_takeCell_51 : decode cX3_takeCell 51 = .ok (.getfield 34, 3) := kq.at kqdX3_takeCell_43 6 rfl
theorem dX3_takeCell_54 : decode cX3_takeCell 54 = .ok (.invokevirtual 140, 3) := kq.at kqdX3_takeCell_43 7 rfl
theorem dX3_takeCell_57 : decode cX3_takeCell 57 = .ok (.aload_n 0, 1) := kq.at kqdX3_takeCell_43 8 rfl
theorem dX3_takeCell_58 : decode cX3_takeCell 58 = .ok (.getfield 12, 3) := kq.at kqdX3_takeCell_43 9 rfl
theorem dX3_takeCell_61 : decode cX3_takeCell 61 = .ok (.getfield 126, 3) := kq.at kqdX3_takeCell_43 10 rfl
theorem dX3_takeCell_64 : decode cX3_takeCell 64 = .ok (.iload_n 1, 1) := kq.at kqdX3_takeCell_43 11 rfl
theorem dX3_takeCell_65 : decode cX3_takeCell 65 = .ok (.iload_n 2, 1) := kq.at kqdX3_takeCell_43 12 rfl
theorem dX3_takeCell_66 : decode cX3_takeCell 66 = .ok (.iconst 1, 1) := kq.at kqdX3_takeCell_43 13 rfl
theorem dX3_takeCell_67 : decode cX3_takeCell 67 = .ok (.iadd, 1) := kq.at kqdX3_takeCell_43 14 rfl
theorem dX3_takeCell_68 : decode cX3_takeCell 68 = .ok (.iastore, 1) := kq.at kqdX3_takeCell_43 15 rfl
theorem dX3_takeCell_69 : decode cX3_takeCell 69 = .ok (.aload_n 0, 1) := kq.at kqdX3_takeCell_43 16 rfl
theorem dX3_takeCell_70 : decode cX3_takeCell 70 = .ok (.iconst 4, 1) := kq.at kqdX3_takeCell_43 17 rfl
theorem dX3_takeCell_71 : decode cX3_takeCell 71 = .ok (.putfield 37, 3) := kq.at kqdX3_takeCell_43 18 rfl
theorem dX3_takeCell_74 : decode cX3_takeCell 74 = .ok (.iconst 0, 1) := kq.at kqdX3_takeCell_43 19 rfl
theorem dX3_takeCell_75 : decode cX3_takeCell 75 = .ok (.ireturn, 1) := kq.at kqdX3_takeCell_43 20 rfl
theorem kqdX3_takeMore_0 : kq cX3_takeMore [(0, .aload_n 0, 1), (1, .getfield 25, 3), (4, .iconst 1, 1), (5, .if_icmp .ne 8, 3), (8, .aload_n 0, 1), (9, .invokevirtual 92, 3), (12, .ireturn, 1), (13, .aload_n 0, 1), (14, .getfield 25, 3), (17, .iconst 2, 1), (18, .if_icmp .ne 8, 3), (21, .aload_n 0, 1), (22, .invokevirtual 98, 3), (25, .ireturn, 1), (26, .aload_n 0, 1), (27, .aload_n 1, 1), (28, .invokevirtual 143, 3), (31, .istore_n 2, 1), (32, .iload_n 2, 1), (33, .ifCond .ne 5, 3), (36, .iconst 2, 1), (37, .ireturn, 1), (38, .aload_n 0, 1), (39, .getfield 12, 3)] = true := by decide +kernel
theorem dX3_takeMore_0 : decode cX3_takeMore 0 = .ok (.aload_n 0, 1) := kq.at kqdX3_takeMore_0 0 rfl
theorem dX3_takeMore_1 : decode cX3_takeMore 1 = .ok (.getfield 25, 3) := kq.at kqdX3_takeMore_0 1 rfl
theorem dX3_takeMore_4 : decode cX3_takeMore 4 = .ok (.iconst 1, 1) := kq.at kqdX3_takeMore_0 2 rfl
theorem dX3_takeMore_5 : decode cX3_takeMore 5 = .ok (.if_icmp .ne 8, 3) := kq.at kqdX3_takeMore_0 3 rfl
theorem dX3_takeMore_8 : decode cX3_takeMore 8 = .ok (.aload_n 0, 1) := kq.at kqdX3_takeMore_0 4 rfl
theorem dX3_takeMore_9 : decode cX3_takeMore 9 = .ok (.invokevirtual 92, 3) := kq.at kqdX3_takeMore_0 5 rfl
theorem dX3_takeMore_12 : decode cX3_takeMore 12 = .ok (.ireturn, 1) := kq.at kqdX3_takeMore_0 6 rfl
theorem dX3_takeMore_13 : decode cX3_takeMore 13 = .ok (.aload_n 0, 1) := kq.at kqdX3_takeMore_0 7 rfl
theorem dX3_takeMore_14 : decode cX3_takeMore 14 = .ok (.getfield 25, 3) := kq.at kqdX3_takeMore_0 8 rfl
theorem dX3_takeMore_17 : decode cX3_takeMore 17 = .ok (.iconst 2, 1) := kq.at kqdX3_takeMore_0 9 rfl
theorem dX3_takeMore_18 : decode cX3_takeMore 18 = .ok (.if_icmp .ne 8, 3) := kq.at kqdX3_takeMore_0 10 rfl
theorem dX3_takeMore_21 : decode cX3_takeMore 21 = .ok (.aload_n 0, 1) := kq.at kqdX3_takeMore_0 11 rfl
theorem dX3_takeMore_22 : decode cX3_takeMore 22 = .ok (.invokevirtual 98, 3) := kq.at kqdX3_takeMore_0 12 rfl
theorem dX3_takeMore_25 : decode cX3_takeMore 25 = .ok (.ireturn, 1) := kq.at kqdX3_takeMore_0 13 rfl
theorem dX3_takeMore_26 : decode cX3_takeMore 26 = .ok (.aload_n 0, 1) := kq.at kqdX3_takeMore_0 14 rfl
theorem dX3_takeMore_27 : decode cX3_takeMore 27 = .ok (.aload_n 1, 1) := kq.at kqdX3_takeMore_0 15 rfl
theorem dX3_takeMore_28 : decode cX3_takeMore 28 = .ok (.invokevirtual 143, 3) := kq.at kqdX3_takeMore_0 16 rfl
theorem dX3_takeMore_31 : decode cX3_takeMore 31 = .ok (.istore_n 2, 1) := kq.at kqdX3_takeMore_0 17 rfl
theorem dX3_takeMore_32 : decode cX3_takeMore 32 = .ok (.iload_n 2, 1) := kq.at kqdX3_takeMore_0 18 rfl
theorem dX3_takeMore_33 : decode cX3_takeMore 33 = .ok (.ifCond .ne 5, 3) := kq.at kqdX3_takeMore_0 19 rfl
theorem dX3_takeMore_36 : decode cX3_takeMore 36 = .ok (.iconst 2, 1) := kq.at kqdX3_takeMore_0 20 rfl
theorem dX3_takeMore_37 : decode cX3_takeMore 37 = .ok (.ireturn, 1) := kq.at kqdX3_takeMore_0 21 rfl
theorem dX3_takeMore_38 : decode cX3_takeMore 38 = .ok (.aload_n 0, 1) := kq.at kqdX3_takeMore_0 22 rfl
theorem dX3_takeMore_39 : decode cX3_takeMore 39 = .ok (.getfield 12, 3) := kq.at kqdX3_takeMore_0 23 rfl
theorem kqdX3_takeMore_42 : kq cX3_takeMore [(42, .getfield 129, 3), (45, .aload_n 0, 1), (46, .getfield 12, 3), (49, .getfield 106, 3), (52, .iload_n 2, 1), (53, .iastore, 1), (54, .aload_n 0, 1), (55, .iconst 5, 1), (56, .putfield 37, 3), (59, .iconst 0, 1), (60, .ireturn, 1)] = true := by decide +kernel
theorem dX3_takeMore_42 : decode cX3_takeMore 42 = .ok (.getfield 129, 3) := kq.at kqdX3_takeMore_42 0 rfl
theorem dX3_takeMore_45 : decode cX3_takeMore 45 = .ok (.aload_n 0, 1) := kq.at kqdX3_takeMore_42 1 rfl
theorem dX3_takeMore_46 : decode cX3_takeMore 46 = .ok (.getfield 12, 3) := kq.at kqdX3_takeMore_42 2 rfl
theorem dX3_takeMore_49 : decode cX3_takeMore 49 = .ok (.getfield 106, 3) := kq.at kqdX3_takeMore_42 3 rfl
theorem dX3_takeMore_52 : decode cX3_takeMore 52 = .ok (.iload_n 2, 1) := kq.at kqdX3_takeMore_42 4 rfl
theorem dX3_takeMore_53 : decode cX3_takeMore 53 = .ok (.iastore, 1) := kq.at kqdX3_takeMore_42 5 rfl
theorem dX3_takeMore_54 : decode cX3_takeMore 54 = .ok (.aload_n 0, 1) := kq.at kqdX3_takeMore_42 6 rfl
theorem dX3_takeMore_55 : decode cX3_takeMore 55 = .ok (.iconst 5, 1) := kq.at kqdX3_takeMore_42 7 rfl
theorem dX3_takeMore_56 : decode cX3_takeMore 56 = .ok (.putfield 37, 3) := kq.at kqdX3_takeMore_42 8 rfl
theorem dX3_takeMore_59 : decode cX3_takeMore 59 = .ok (.iconst 0, 1) := kq.at kqdX3_takeMore_42 9 rfl
theorem dX3_takeMore_60 : decode cX3_takeMore 60 = .ok (.ireturn, 1) := kq.at kqdX3_takeMore_42 10 rfl
theorem kqdX3_condNamed_0 : kq cX3_condNamed [(0, .aload_n 0, 1), (1, .aload_n 1, 1), (2, .ldc 146, 2), (4, .invokevirtual 88, 3), (7, .ifCond .eq 5, 3), (10, .iconst 1, 1), (11, .ireturn, 1), (12, .aload_n 0, 1), (13, .aload_n 1, 1), (14, .ldc 148, 2), (16, .invokevirtual 88, 3), (19, .ifCond .eq 5, 3), (22, .iconst 2, 1), (23, .ireturn, 1), (24, .aload_n 0, 1), (25, .aload_n 1, 1), (26, .ldc 150, 2), (28, .invokevirtual 88, 3), (31, .ifCond .eq 5, 3), (34, .iconst 3, 1), (35, .ireturn, 1), (36, .aload_n 0, 1), (37, .aload_n 1, 1), (38, .ldc 152, 2)] = true := by decide +kernel
theorem dX3_condNamed_0 : decode cX3_condNamed 0 = .ok (.aload_n 0, 1) := kq.at kqdX3_condNamed_0 0 rfl
theorem dX3_condNamed_1 : decode cX3_condNamed 1 = .ok (.aload_n 1, 1) := kq.at kqdX3_condNamed_0 1 rfl
theorem dX3_condNamed_2 : decode cX3_condNamed 2 = .ok (.ldc 146, 2) := kq.at kqdX3_condNamed_0 2 rfl
theorem dX3_condNamed_4 : decode cX3_condNamed 4 = .ok (.invokevirtual 88, 3) := kq.at kqdX3_condNamed_0 3 rfl
theorem dX3_condNamed_7 : decode cX3_condNamed 7 = .ok (.ifCond .eq 5, 3) := kq.at kqdX3_condNamed_0 4 rfl
theorem dX3_condNamed_10 : decode cX3_condNamed 10 = .ok (.iconst 1, 1) := kq.at kqdX3_condNamed_0 5 rfl
theorem dX3_condNamed_11 : decode cX3_condNamed 11 = .ok (.ireturn, 1) := kq.at kqdX3_condNamed_0 6 rfl
theorem dX3_condNamed_12 : decode cX3_condNamed 12 = .ok (.aload_n 0, 1) := kq.at kqdX3_condNamed_0 7 rfl
theorem dX3_condNamed_13 : decode cX3_condNamed 13 = .ok (.aload_n 1, 1) := kq.at kqdX3_condNamed_0 8 rfl
theorem dX3_condNamed_14 : decode cX3_condNamed 14 = .ok (.ldc 148, 2) := kq.at kqdX3_condNamed_0 9 rfl
theorem dX3_condNamed_16 : decode cX3_condNamed 16 = .ok (.invokevirtual 88, 3) := kq.at kqdX3_condNamed_0 10 rfl
theorem dX3_condNamed_19 : decode cX3_condNamed 19 = .ok (.ifCond .eq 5, 3) := kq.at kqdX3_condNamed_0 11 rfl
theorem dX3_condNamed_22 : decode cX3_condNamed 22 = .ok (.iconst 2, 1) := kq.at kqdX3_condNamed_0 12 rfl
theorem dX3_condNamed_23 : decode cX3_condNamed 23 = .ok (.ireturn, 1) := kq.at kqdX3_condNamed_0 13 rfl
theorem dX3_condNamed_24 : decode cX3_condNamed 24 = .ok (.aload_n 0, 1) := kq.at kqdX3_condNamed_0 14 rfl
theorem dX3_condNamed_25 : decode cX3_condNamed 25 = .ok (.aload_n 1, 1) := kq.at kqdX3_condNamed_0 15 rfl
theorem dX3_condNamed_26 : decode cX3_condNamed 26 = .ok (.ldc 150, 2) := kq.at kqdX3_condNamed_0 16 rfl
theorem dX3_condNamed_28 : decode cX3_condNamed 28 = .ok (.invokevirtual 88, 3) := kq.at kqdX3_condNamed_0 17 rfl
theorem dX3_condNamed_31 : decode cX3_condNamed 31 = .ok (.ifCond .eq 5, 3) := kq.at kqdX3_condNamed_0 18 rfl
theorem dX3_condNamed_34 : decode cX3_condNamed 34 = .ok (.iconst 3, 1) := kq.at kqdX3_condNamed_0 19 rfl
theorem dX3_condNamed_35 : decode cX3_condNamed 35 = .ok (.ireturn, 1) := kq.at kqdX3_condNamed_0 20 rfl
theorem dX3_condNamed_36 : decode cX3_condNamed 36 = .ok (.aload_n 0, 1) := kq.at kqdX3_condNamed_0 21 rfl
theorem dX3_condNamed_37 : decode cX3_condNamed 37 = .ok (.aload_n 1, 1) := kq.at kqdX3_condNamed_0 22 rfl
theorem dX3_condNamed_38 : decode cX3_condNamed 38 = .ok (.ldc 152, 2) := kq.at kqdX3_condNamed_0 23 rfl
theorem kqdX3_condNamed_40 : kq cX3_condNamed [(40, .invokevirtual 88, 3), (43, .ifCond .eq 7, 3), (46, .iconst 4, 1), (47, .goto 4, 3), (50, .iconst 0, 1), (51, .ireturn, 1)] = true := by decide +kernel
theorem dX3_condNamed_40 : decode cX3_condNamed 40 = .ok (.invokevirtual 88, 3) := kq.at kqdX3_condNamed_40 0 rfl
theorem dX3_condNamed_43 : decode cX3_condNamed 43 = .ok (.ifCond .eq 7, 3) := kq.at kqdX3_condNamed_40 1 rfl
theorem dX3_condNamed_46 : decode cX3_condNamed 46 = .ok (.iconst 4, 1) := kq.at kqdX3_condNamed_40 2 rfl
theorem dX3_condNamed_47 : decode cX3_condNamed 47 = .ok (.goto 4, 3) := kq.at kqdX3_condNamed_40 3 rfl
theorem dX3_condNamed_50 : decode cX3_condNamed 50 = .ok (.iconst 0, 1) := kq.at kqdX3_condNamed_40 4 rfl
theorem dX3_condNamed_51 : decode cX3_condNamed 51 = .ok (.ireturn, 1) := kq.at kqdX3_condNamed_40 5 rfl
theorem kqdX3_takeRule_0 : kq cX3_takeRule [(0, .iconst 0, 1), (1, .istore_n 1, 1), (2, .iload_n 1, 1), (3, .aload_n 0, 1), (4, .getfield 12, 3), (7, .getfield 106, 3), (10, .if_icmp .ge 29, 3), (13, .aload_n 0, 1), (14, .getfield 12, 3), (17, .iload_n 1, 1), (18, .aload_n 0, 1), (19, .getfield 12, 3), (22, .getfield 106, 3), (25, .invokevirtual 154, 3), (28, .ifCond .eq 5, 3), (31, .iconst 3, 1), (32, .ireturn, 1), (33, .iinc 1 1, 3), (36, .goto (-34), 3), (39, .aload_n 0, 1), (40, .getfield 12, 3), (43, .dup, 1), (44, .getfield 106, 3), (47, .iconst 1, 1)] = true := by decide +kernel
theorem dX3_takeRule_0 : decode cX3_takeRule 0 = .ok (.iconst 0, 1) := kq.at kqdX3_takeRule_0 0 rfl
theorem dX3_takeRule_1 : decode cX3_takeRule 1 = .ok (.istore_n 1, 1) := kq.at kqdX3_takeRule_0 1 rfl
theorem dX3_takeRule_2 : decode cX3_takeRule 2 = .ok (.iload_n 1, 1) := kq.at kqdX3_takeRule_0 2 rfl
theorem dX3_takeRule_3 : decode cX3_takeRule 3 = .ok (.aload_n 0, 1) := kq.at kqdX3_takeRule_0 3 rfl
theorem dX3_takeRule_4 : decode cX3_takeRule 4 = .ok (.getfield 12, 3) := kq.at kqdX3_takeRule_0 4 rfl
theorem dX3_takeRule_7 : decode cX3_takeRule 7 = .ok (.getfield 106, 3) := kq.at kqdX3_takeRule_0 5 rfl
theorem dX3_takeRule_10 : decode cX3_takeRule 10 = .ok (.if_icmp .ge 29, 3) := kq.at kqdX3_takeRule_0 6 rfl
theorem dX3_takeRule_13 : decode cX3_takeRule 13 = .ok (.aload_n 0, 1) := kq.at kqdX3_takeRule_0 7 rfl
theorem dX3_takeRule_14 : decode cX3_takeRule 14 = .ok (.getfield 12, 3) := kq.at kqdX3_takeRule_0 8 rfl
theorem dX3_takeRule_17 : decode cX3_takeRule 17 = .ok (.iload_n 1, 1) := kq.at kqdX3_takeRule_0 9 rfl
theorem dX3_takeRule_18 : decode cX3_takeRule 18 = .ok (.aload_n 0, 1) := kq.at kqdX3_takeRule_0 10 rfl
theorem dX3_takeRule_19 : decode cX3_takeRule 19 = .ok (.getfield 12, 3) := kq.at kqdX3_takeRule_0 11 rfl
theorem dX3_takeRule_22 : decode cX3_takeRule 22 = .ok (.getfield 106, 3) := kq.at kqdX3_takeRule_0 12 rfl
theorem dX3_takeRule_25 : decode cX3_takeRule 25 = .ok (.invokevirtual 154, 3) := kq.at kqdX3_takeRule_0 13 rfl
theorem dX3_takeRule_28 : decode cX3_takeRule 28 = .ok (.ifCond .eq 5, 3) := kq.at kqdX3_takeRule_0 14 rfl
theorem dX3_takeRule_31 : decode cX3_takeRule 31 = .ok (.iconst 3, 1) := kq.at kqdX3_takeRule_0 15 rfl
theorem dX3_takeRule_32 : decode cX3_takeRule 32 = .ok (.ireturn, 1) := kq.at kqdX3_takeRule_0 16 rfl
theorem dX3_takeRule_33 : decode cX3_takeRule 33 = .ok (.iinc 1 1, 3) := kq.at kqdX3_takeRule_0 17 rfl
theorem dX3_takeRule_36 : decode cX3_takeRule 36 = .ok (.goto (-34), 3) := kq.at kqdX3_takeRule_0 18 rfl
theorem dX3_takeRule_39 : decode cX3_takeRule 39 = .ok (.aload_n 0, 1) := kq.at kqdX3_takeRule_0 19 rfl
theorem dX3_takeRule_40 : decode cX3_takeRule 40 = .ok (.getfield 12, 3) := kq.at kqdX3_takeRule_0 20 rfl
theorem dX3_takeRule_43 : decode cX3_takeRule 43 = .ok (.dup, 1) := kq.at kqdX3_takeRule_0 21 rfl
theorem dX3_takeRule_44 : decode cX3_takeRule 44 = .ok (.getfield 106, 3) := kq.at kqdX3_takeRule_0 22 rfl
theorem dX3_takeRule_47 : decode cX3_takeRule 47 = .ok (.iconst 1, 1) := kq.at kqdX3_takeRule_0 23 rfl
theorem kqdX3_takeRule_48 : kq cX3_takeRule [(48, .iadd, 1), (49, .putfield 106, 3), (52, .aload_n 0, 1), (53, .iconst 0, 1), (54, .putfield 37, 3), (57, .iconst 0, 1), (58, .ireturn, 1)] = true := by decide +kernel
theorem dX3_takeRule_48 : decode cX3_takeRule 48 = .ok (.iadd, 1) := kq.at kqdX3_takeRule_48 0 rfl
theorem dX3_takeRule_49 : decode cX3_takeRule 49 = .ok (.putfield 106, 3) := kq.at kqdX3_takeRule_48 1 rfl
theorem dX3_takeRule_52 : decode cX3_takeRule 52 = .ok (.aload_n 0, 1) := kq.at kqdX3_takeRule_48 2 rfl
theorem dX3_takeRule_53 : decode cX3_takeRule 53 = .ok (.iconst 0, 1) := kq.at kqdX3_takeRule_48 3 rfl
theorem dX3_takeRule_54 : decode cX3_takeRule 54 = .ok (.putfield 37, 3) := kq.at kqdX3_takeRule_48 4 rfl
theorem dX3_takeRule_57 : decode cX3_takeRule 57 = .ok (.iconst 0, 1) := kq.at kqdX3_takeRule_48 5 rfl
theorem dX3_takeRule_58 : decode cX3_takeRule 58 = .ok (.ireturn, 1) := kq.at kqdX3_takeRule_48 6 rfl
theorem kqdX3_takeSign_0 : kq cX3_takeSign [(0, .iconst 1, 1), (1, .istore_n 1, 1), (2, .bipush 63, 2), (4, .istore_n 2, 1), (5, .aload_n 0, 1), (6, .getfield 40, 3), (9, .iconst 3, 1), (10, .if_icmp .ne 11, 3), (13, .iconst 4, 1), (14, .istore_n 1, 1), (15, .bipush 40, 2), (17, .istore_n 2, 1), (18, .goto 16, 3), (21, .aload_n 0, 1), (22, .getfield 40, 3), (25, .iconst 4, 1), (26, .if_icmp .ne 8, 3), (29, .iconst 2, 1), (30, .istore_n 1, 1), (31, .bipush 30, 2), (33, .istore_n 2, 1), (34, .aload_n 0, 1), (35, .getfield 34, 3), (38, .iload_n 1, 1)] = true := by decide +kernel
theorem dX3_takeSign_0 : decode cX3_takeSign 0 = .ok (.iconst 1, 1) := kq.at kqdX3_takeSign_0 0 rfl
theorem dX3_takeSign_1 : decode cX3_takeSign 1 = .ok (.istore_n 1, 1) := kq.at kqdX3_takeSign_0 1 rfl
theorem dX3_takeSign_2 : decode cX3_takeSign 2 = .ok (.bipush 63, 2) := kq.at kqdX3_takeSign_0 2 rfl
theorem dX3_takeSign_4 : decode cX3_takeSign 4 = .ok (.istore_n 2, 1) := kq.at kqdX3_takeSign_0 3 rfl
theorem dX3_takeSign_5 : decode cX3_takeSign 5 = .ok (.aload_n 0, 1) := kq.at kqdX3_takeSign_0 4 rfl
theorem dX3_takeSign_6 : decode cX3_takeSign 6 = .ok (.getfield 40, 3) := kq.at kqdX3_takeSign_0 5 rfl
theorem dX3_takeSign_9 : decode cX3_takeSign 9 = .ok (.iconst 3, 1) := kq.at kqdX3_takeSign_0 6 rfl
theorem dX3_takeSign_10 : decode cX3_takeSign 10 = .ok (.if_icmp .ne 11, 3) := kq.at kqdX3_takeSign_0 7 rfl
theorem dX3_takeSign_13 : decode cX3_takeSign 13 = .ok (.iconst 4, 1) := kq.at kqdX3_takeSign_0 8 rfl
theorem dX3_takeSign_14 : decode cX3_takeSign 14 = .ok (.istore_n 1, 1) := kq.at kqdX3_takeSign_0 9 rfl
theorem dX3_takeSign_15 : decode cX3_takeSign 15 = .ok (.bipush 40, 2) := kq.at kqdX3_takeSign_0 10 rfl
theorem dX3_takeSign_17 : decode cX3_takeSign 17 = .ok (.istore_n 2, 1) := kq.at kqdX3_takeSign_0 11 rfl
theorem dX3_takeSign_18 : decode cX3_takeSign 18 = .ok (.goto 16, 3) := kq.at kqdX3_takeSign_0 12 rfl
theorem dX3_takeSign_21 : decode cX3_takeSign 21 = .ok (.aload_n 0, 1) := kq.at kqdX3_takeSign_0 13 rfl
theorem dX3_takeSign_22 : decode cX3_takeSign 22 = .ok (.getfield 40, 3) := kq.at kqdX3_takeSign_0 14 rfl
theorem dX3_takeSign_25 : decode cX3_takeSign 25 = .ok (.iconst 4, 1) := kq.at kqdX3_takeSign_0 15 rfl
theorem dX3_takeSign_26 : decode cX3_takeSign 26 = .ok (.if_icmp .ne 8, 3) := kq.at kqdX3_takeSign_0 16 rfl
theorem dX3_takeSign_29 : decode cX3_takeSign 29 = .ok (.iconst 2, 1) := kq.at kqdX3_takeSign_0 17 rfl
theorem dX3_takeSign_30 : decode cX3_takeSign 30 = .ok (.istore_n 1, 1) := kq.at kqdX3_takeSign_0 18 rfl
theorem dX3_takeSign_31 : decode cX3_takeSign 31 = .ok (.bipush 30, 2) := kq.at kqdX3_takeSign_0 19 rfl
theorem dX3_takeSign_33 : decode cX3_takeSign 33 = .ok (.istore_n 2, 1) := kq.at kqdX3_takeSign_0 20 rfl
theorem dX3_takeSign_34 : decode cX3_takeSign 34 = .ok (.aload_n 0, 1) := kq.at kqdX3_takeSign_0 21 rfl
theorem dX3_takeSign_35 : decode cX3_takeSign 35 = .ok (.getfield 34, 3) := kq.at kqdX3_takeSign_0 22 rfl
theorem dX3_takeSign_38 : decode cX3_takeSign 38 = .ok (.iload_n 1, 1) := kq.at kqdX3_takeSign_0 23 rfl
theorem kqdX3_takeSign_39 : kq cX3_takeSign [(39, .if_icmp .lt 11, 3), (42, .aload_n 0, 1), (43, .getfield 34, 3), (46, .iload_n 2, 1), (47, .if_icmp .le 5, 3), (50, .iconst 4, 1), (51, .ireturn, 1), (52, .aload_n 0, 1), (53, .getfield 12, 3), (56, .getfield 158, 3), (59, .aload_n 0, 1), (60, .getfield 40, 3), (63, .aload_n 0, 1), (64, .getfield 34, 3), (67, .iastore, 1), (68, .aload_n 0, 1), (69, .bipush 7, 2), (71, .putfield 37, 3), (74, .iconst 0, 1), (75, .ireturn, 1)] = true := by decide +kernel
theorem dX3_takeSign_39 : decode cX3_takeSign 39 = .ok (.if_icmp .lt 11, 3) := kq.at kqdX3_takeSign_39 0 rfl
theorem dX3_takeSign_42 : decode cX3_takeSign 42 = .ok (.aload_n 0, 1) := kq.at kqdX3_takeSign_39 1 rfl
theorem dX3_takeSign_43 : decode cX3_takeSign 43 = .ok (.getfield 34, 3) := kq.at kqdX3_takeSign_39 2 rfl
theorem dX3_takeSign_46 : decode cX3_takeSign 46 = .ok (.iload_n 2, 1) := kq.at kqdX3_takeSign_39 3 rfl
theorem dX3_takeSign_47 : decode cX3_takeSign 47 = .ok (.if_icmp .le 5, 3) := kq.at kqdX3_takeSign_39 4 rfl
theorem dX3_takeSign_50 : decode cX3_takeSign 50 = .ok (.iconst 4, 1) := kq.at kqdX3_takeSign_39 5 rfl
theorem dX3_takeSign_51 : decode cX3_takeSign 51 = .ok (.ireturn, 1) := kq.at kqdX3_takeSign_39 6 rfl
theorem dX3_takeSign_52 : decode cX3_takeSign 52 = .ok (.aload_n 0, 1) := kq.at kqdX3_takeSign_39 7 rfl
theorem dX3_takeSign_53 : decode cX3_takeSign 53 = .ok (.getfield 12, 3) := kq.at kqdX3_takeSign_39 8 rfl
theorem dX3_takeSign_56 : decode cX3_takeSign 56 = .ok (.getfield 158, 3) := kq.at kqdX3_takeSign_39 9 rfl
theorem dX3_takeSign_59 : decode cX3_takeSign 59 = .ok (.aload_n 0, 1) := kq.at kqdX3_takeSign_39 10 rfl
theorem dX3_takeSign_60 : decode cX3_takeSign 60 = .ok (.getfield 40, 3) := kq.at kqdX3_takeSign_39 11 rfl
theorem dX3_takeSign_63 : decode cX3_takeSign 63 = .ok (.aload_n 0, 1) := kq.at kqdX3_takeSign_39 12 rfl
theorem dX3_takeSign_64 : decode cX3_takeSign 64 = .ok (.getfield 34, 3) := kq.at kqdX3_takeSign_39 13 rfl
theorem dX3_takeSign_67 : decode cX3_takeSign 67 = .ok (.iastore, 1) := kq.at kqdX3_takeSign_39 14 rfl
theorem dX3_takeSign_68 : decode cX3_takeSign 68 = .ok (.aload_n 0, 1) := kq.at kqdX3_takeSign_39 15 rfl
theorem dX3_takeSign_69 : decode cX3_takeSign 69 = .ok (.bipush 7, 2) := kq.at kqdX3_takeSign_39 16 rfl
theorem dX3_takeSign_71 : decode cX3_takeSign 71 = .ok (.putfield 37, 3) := kq.at kqdX3_takeSign_39 17 rfl
theorem dX3_takeSign_74 : decode cX3_takeSign 74 = .ok (.iconst 0, 1) := kq.at kqdX3_takeSign_39 18 rfl
theorem dX3_takeSign_75 : decode cX3_takeSign 75 = .ok (.ireturn, 1) := kq.at kqdX3_takeSign_39 19 rfl
theorem kqdX4_init_0 : kq cX4_init [(0, .aload_n 0, 1), (1, .invokespecial 3, 3), (4, .aload_n 0, 1), (5, .iconst 0, 1), (6, .putfield 9, 3), (9, .aload_n 0, 1), (10, .iconst 0, 1), (11, .putfield 15, 3), (14, .aload_n 0, 1), (15, .bipush 20, 2), (17, .newarray .int, 2), (19, .putfield 18, 3), (22, .aload_n 0, 1), (23, .bipush 20, 2), (25, .newarray .int, 2), (27, .putfield 22, 3), (30, .aload_n 0, 1), (31, .bipush 20, 2), (33, .newarray .int, 2), (35, .putfield 25, 3), (38, .aload_n 0, 1), (39, .iconst 0, 1), (40, .putfield 28, 3), (43, .aload_n 0, 1)] = true := by decide +kernel
theorem dX4_init_0 : decode cX4_init 0 = .ok (.aload_n 0, 1) := kq.at kqdX4_init_0 0 rfl
theorem dX4_init_1 : decode cX4_init 1 = .ok (.invokespecial 3, 3) := kq.at kqdX4_init_0 1 rfl
theorem dX4_init_4 : decode cX4_init 4 = .ok (.aload_n 0, 1) := kq.at kqdX4_init_0 2 rfl
theorem dX4_init_5 : decode cX4_init 5 = .ok (.iconst 0, 1) := kq.at kqdX4_init_0 3 rfl
theorem dX4_init_6 : decode cX4_init 6 = .ok (.putfield 9, 3) := kq.at kqdX4_init_0 4 rfl
theorem dX4_init_9 : decode cX4_init 9 = .ok (.aload_n 0, 1) := kq.at kqdX4_init_0 5 rfl
theorem dX4_init_10 : decode cX4_init 10 = .ok (.iconst 0, 1) := kq.at kqdX4_init_0 6 rfl
theorem dX4_init_11 : decode cX4_init 11 = .ok (.putfield 15, 3) := kq.at kqdX4_init_0 7 rfl
theorem dX4_init_14 : decode cX4_init 14 = .ok (.aload_n 0, 1) := kq.at kqdX4_init_0 8 rfl
theorem dX4_init_15 : decode cX4_init 15 = .ok (.bipush 20, 2) := kq.at kqdX4_init_0 9 rfl
theorem dX4_init_17 : decode cX4_init 17 = .ok (.newarray .int, 2) := kq.at kqdX4_init_0 10 rfl
theorem dX4_init_19 : decode cX4_init 19 = .ok (.putfield 18, 3) := kq.at kqdX4_init_0 11 rfl
theorem dX4_init_22 : decode cX4_init 22 = .ok (.aload_n 0, 1) := kq.at kqdX4_init_0 12 rfl
theorem dX4_init_23 : decode cX4_init 23 = .ok (.bipush 20, 2) := kq.at kqdX4_init_0 13 rfl
theorem dX4_init_25 : decode cX4_init 25 = .ok (.newarray .int, 2) := kq.at kqdX4_init_0 14 rfl
theorem dX4_init_27 : decode cX4_init 27 = .ok (.putfield 22, 3) := kq.at kqdX4_init_0 15 rfl
theorem dX4_init_30 : decode cX4_init 30 = .ok (.aload_n 0, 1) := kq.at kqdX4_init_0 16 rfl
theorem dX4_init_31 : decode cX4_init 31 = .ok (.bipush 20, 2) := kq.at kqdX4_init_0 17 rfl
theorem dX4_init_33 : decode cX4_init 33 = .ok (.newarray .int, 2) := kq.at kqdX4_init_0 18 rfl
theorem dX4_init_35 : decode cX4_init 35 = .ok (.putfield 25, 3) := kq.at kqdX4_init_0 19 rfl
theorem dX4_init_38 : decode cX4_init 38 = .ok (.aload_n 0, 1) := kq.at kqdX4_init_0 20 rfl
theorem dX4_init_39 : decode cX4_init 39 = .ok (.iconst 0, 1) := kq.at kqdX4_init_0 21 rfl
theorem dX4_init_40 : decode cX4_init 40 = .ok (.putfield 28, 3) := kq.at kqdX4_init_0 22 rfl
theorem dX4_init_43 : decode cX4_init 43 = .ok (.aload_n 0, 1) := kq.at kqdX4_init_0 23 rfl
theorem kqdX4_init_44 : kq cX4_init [(44, .bipush 21, 2), (46, .newarray .int, 2), (48, .putfield 31, 3), (51, .aload_n 0, 1), (52, .bipush 120, 2), (54, .newarray .int, 2), (56, .putfield 34, 3), (59, .aload_n 0, 1), (60, .bipush 21, 2), (62, .newarray .int, 2), (64, .putfield 37, 3), (67, .aload_n 0, 1), (68, .bipush 21, 2), (70, .newarray .int, 2), (72, .putfield 40, 3), (75, .aload_n 0, 1), (76, .bipush 21, 2), (78, .newarray .int, 2), (80, .putfield 43, 3), (83, .return_, 1)] = true := by decide +kernel
theorem dX4_init_44 : decode cX4_init 44 = .ok (.bipush 21, 2) := kq.at kqdX4_init_44 0 rfl
theorem dX4_init_46 : decode cX4_init 46 = .ok (.newarray .int, 2) := kq.at kqdX4_init_44 1 rfl
theorem dX4_init_48 : decode cX4_init 48 = .ok (.putfield 31, 3) := kq.at kqdX4_init_44 2 rfl
theorem dX4_init_51 : decode cX4_init 51 = .ok (.aload_n 0, 1) := kq.at kqdX4_init_44 3 rfl
theorem dX4_init_52 : decode cX4_init 52 = .ok (.bipush 120, 2) := kq.at kqdX4_init_44 4 rfl
theorem dX4_init_54 : decode cX4_init 54 = .ok (.newarray .int, 2) := kq.at kqdX4_init_44 5 rfl
theorem dX4_init_56 : decode cX4_init 56 = .ok (.putfield 34, 3) := kq.at kqdX4_init_44 6 rfl
theorem dX4_init_59 : decode cX4_init 59 = .ok (.aload_n 0, 1) := kq.at kqdX4_init_44 7 rfl
theorem dX4_init_60 : decode cX4_init 60 = .ok (.bipush 21, 2) := kq.at kqdX4_init_44 8 rfl
theorem dX4_init_62 : decode cX4_init 62 = .ok (.newarray .int, 2) := kq.at kqdX4_init_44 9 rfl
theorem dX4_init_64 : decode cX4_init 64 = .ok (.putfield 37, 3) := kq.at kqdX4_init_44 10 rfl
theorem dX4_init_67 : decode cX4_init 67 = .ok (.aload_n 0, 1) := kq.at kqdX4_init_44 11 rfl
theorem dX4_init_68 : decode cX4_init 68 = .ok (.bipush 21, 2) := kq.at kqdX4_init_44 12 rfl
theorem dX4_init_70 : decode cX4_init 70 = .ok (.newarray .int, 2) := kq.at kqdX4_init_44 13 rfl
theorem dX4_init_72 : decode cX4_init 72 = .ok (.putfield 40, 3) := kq.at kqdX4_init_44 14 rfl
theorem dX4_init_75 : decode cX4_init 75 = .ok (.aload_n 0, 1) := kq.at kqdX4_init_44 15 rfl
theorem dX4_init_76 : decode cX4_init 76 = .ok (.bipush 21, 2) := kq.at kqdX4_init_44 16 rfl
theorem dX4_init_78 : decode cX4_init 78 = .ok (.newarray .int, 2) := kq.at kqdX4_init_44 17 rfl
theorem dX4_init_80 : decode cX4_init 80 = .ok (.putfield 43, 3) := kq.at kqdX4_init_44 18 rfl
theorem dX4_init_83 : decode cX4_init 83 = .ok (.return_, 1) := kq.at kqdX4_init_44 19 rfl
theorem kqdX4_put_0 : kq cX4_put [(0, .aload_n 0, 1), (1, .getfield 22, 3), (4, .iload_n 1, 1), (5, .iload_n 2, 1), (6, .iastore, 1), (7, .aload_n 0, 1), (8, .getfield 25, 3), (11, .iload_n 1, 1), (12, .iload_n 3, 1), (13, .iastore, 1), (14, .return_, 1)] = true := by decide +kernel
theorem dX4_put_0 : decode cX4_put 0 = .ok (.aload_n 0, 1) := kq.at kqdX4_put_0 0 rfl
theorem dX4_put_1 : decode cX4_put 1 = .ok (.getfield 22, 3) := kq.at kqdX4_put_0 1 rfl
theorem dX4_put_4 : decode cX4_put 4 = .ok (.iload_n 1, 1) := kq.at kqdX4_put_0 2 rfl
theorem dX4_put_5 : decode cX4_put 5 = .ok (.iload_n 2, 1) := kq.at kqdX4_put_0 3 rfl
theorem dX4_put_6 : decode cX4_put 6 = .ok (.iastore, 1) := kq.at kqdX4_put_0 4 rfl
theorem dX4_put_7 : decode cX4_put 7 = .ok (.aload_n 0, 1) := kq.at kqdX4_put_0 5 rfl
theorem dX4_put_8 : decode cX4_put 8 = .ok (.getfield 25, 3) := kq.at kqdX4_put_0 6 rfl
theorem dX4_put_11 : decode cX4_put 11 = .ok (.iload_n 1, 1) := kq.at kqdX4_put_0 7 rfl
theorem dX4_put_12 : decode cX4_put 12 = .ok (.iload_n 3, 1) := kq.at kqdX4_put_0 8 rfl
theorem dX4_put_13 : decode cX4_put 13 = .ok (.iastore, 1) := kq.at kqdX4_put_0 9 rfl
theorem dX4_put_14 : decode cX4_put 14 = .ok (.return_, 1) := kq.at kqdX4_put_0 10 rfl
theorem kqdX4_count_0 : kq cX4_count [(0, .aload_n 0, 1), (1, .iload_n 1, 1), (2, .putfield 28, 3), (5, .aload_n 0, 1), (6, .getfield 31, 3), (9, .aload_n 0, 1), (10, .getfield 28, 3), (13, .iconst 1, 1), (14, .iastore, 1), (15, .aload_n 0, 1), (16, .getfield 28, 3), (19, .iconst 1, 1), (20, .isub, 1), (21, .istore_n 3, 1), (22, .iload_n 3, 1), (23, .ifCond .lt 73, 3), (26, .iconst 0, 1), (27, .istore 4, 2), (29, .iconst 0, 1), (30, .istore 5, 2), (32, .iload 5, 2), (34, .aload_n 2, 1), (35, .getfield 46, 3), (38, .if_icmp .ge 44, 3)] = true := by decide +kernel
theorem dX4_count_0 : decode cX4_count 0 = .ok (.aload_n 0, 1) := kq.at kqdX4_count_0 0 rfl
theorem dX4_count_1 : decode cX4_count 1 = .ok (.iload_n 1, 1) := kq.at kqdX4_count_0 1 rfl
theorem dX4_count_2 : decode cX4_count 2 = .ok (.putfield 28, 3) := kq.at kqdX4_count_0 2 rfl
theorem dX4_count_5 : decode cX4_count 5 = .ok (.aload_n 0, 1) := kq.at kqdX4_count_0 3 rfl
theorem dX4_count_6 : decode cX4_count 6 = .ok (.getfield 31, 3) := kq.at kqdX4_count_0 4 rfl
theorem dX4_count_9 : decode cX4_count 9 = .ok (.aload_n 0, 1) := kq.at kqdX4_count_0 5 rfl
theorem dX4_count_10 : decode cX4_count 10 = .ok (.getfield 28, 3) := kq.at kqdX4_count_0 6 rfl
theorem dX4_count_13 : decode cX4_count 13 = .ok (.iconst 1, 1) := kq.at kqdX4_count_0 7 rfl
theorem dX4_count_14 : decode cX4_count 14 = .ok (.iastore, 1) := kq.at kqdX4_count_0 8 rfl
theorem dX4_count_15 : decode cX4_count 15 = .ok (.aload_n 0, 1) := kq.at kqdX4_count_0 9 rfl
theorem dX4_count_16 : decode cX4_count 16 = .ok (.getfield 28, 3) := kq.at kqdX4_count_0 10 rfl
theorem dX4_count_19 : decode cX4_count 19 = .ok (.iconst 1, 1) := kq.at kqdX4_count_0 11 rfl
theorem dX4_count_20 : decode cX4_count 20 = .ok (.isub, 1) := kq.at kqdX4_count_0 12 rfl
theorem dX4_count_21 : decode cX4_count 21 = .ok (.istore_n 3, 1) := kq.at kqdX4_count_0 13 rfl
theorem dX4_count_22 : decode cX4_count 22 = .ok (.iload_n 3, 1) := kq.at kqdX4_count_0 14 rfl
theorem dX4_count_23 : decode cX4_count 23 = .ok (.ifCond .lt 73, 3) := kq.at kqdX4_count_0 15 rfl
theorem dX4_count_26 : decode cX4_count 26 = .ok (.iconst 0, 1) := kq.at kqdX4_count_0 16 rfl
theorem dX4_count_27 : decode cX4_count 27 = .ok (.istore 4, 2) := kq.at kqdX4_count_0 17 rfl
theorem dX4_count_29 : decode cX4_count 29 = .ok (.iconst 0, 1) := kq.at kqdX4_count_0 18 rfl
theorem dX4_count_30 : decode cX4_count 30 = .ok (.istore 5, 2) := kq.at kqdX4_count_0 19 rfl
theorem dX4_count_32 : decode cX4_count 32 = .ok (.iload 5, 2) := kq.at kqdX4_count_0 20 rfl
theorem dX4_count_34 : decode cX4_count 34 = .ok (.aload_n 2, 1) := kq.at kqdX4_count_0 21 rfl
theorem dX4_count_35 : decode cX4_count 35 = .ok (.getfield 46, 3) := kq.at kqdX4_count_0 22 rfl
theorem dX4_count_38 : decode cX4_count 38 = .ok (.if_icmp .ge 44, 3) := kq.at kqdX4_count_0 23 rfl
theorem kqdX4_count_41 : kq cX4_count [(41, .aload_n 0, 1), (42, .iload 5, 2), (44, .iload_n 3, 1), (45, .aload_n 2, 1), (46, .invokevirtual 51, 3), (49, .ifCond .eq 27, 3), (52, .ldc 55, 2), (54, .iload 4, 2), (56, .aload_n 0, 1), (57, .getfield 31, 3), (60, .iload_n 3, 1), (61, .aload_n 2, 1), (62, .getfield 56, 3), (65, .iload 5, 2), (67, .iaload, 1), (68, .iadd, 1), (69, .iaload, 1), (70, .iadd, 1), (71, .invokestatic 59, 3), (74, .istore 4, 2), (76, .iinc 5 1, 3), (79, .goto (-47), 3), (82, .aload_n 0, 1), (83, .getfield 31, 3)] = true := by decide +kernel
theorem dX4_count_41 : decode cX4_count 41 = .ok (.aload_n 0, 1) := kq.at kqdX4_count_41 0 rfl
theorem dX4_count_42 : decode cX4_count 42 = .ok (.iload 5, 2) := kq.at kqdX4_count_41 1 rfl
theorem dX4_count_44 : decode cX4_count 44 = .ok (.iload_n 3, 1) := kq.at kqdX4_count_41 2 rfl
theorem dX4_count_45 : decode cX4_count 45 = .ok (.aload_n 2, 1) := kq.at kqdX4_count_41 3 rfl
theorem dX4_count_46 : decode cX4_count 46 = .ok (.invokevirtual 51, 3) := kq.at kqdX4_count_41 4 rfl
theorem dX4_count_49 : decode cX4_count 49 = .ok (.ifCond .eq 27, 3) := kq.at kqdX4_count_41 5 rfl
theorem dX4_count_52 : decode cX4_count 52 = .ok (.ldc 55, 2) := kq.at kqdX4_count_41 6 rfl
theorem dX4_count_54 : decode cX4_count 54 = .ok (.iload 4, 2) := kq.at kqdX4_count_41 7 rfl
theorem dX4_count_56 : decode cX4_count 56 = .ok (.aload_n 0, 1) := kq.at kqdX4_count_41 8 rfl
theorem dX4_count_57 : decode cX4_count 57 = .ok (.getfield 31, 3) := kq.at kqdX4_count_41 9 rfl
theorem dX4_count_60 : decode cX4_count 60 = .ok (.iload_n 3, 1) := kq.at kqdX4_count_41 10 rfl
theorem dX4_count_61 : decode cX4_count 61 = .ok (.aload_n 2, 1) := kq.at kqdX4_count_41 11 rfl
theorem dX4_count_62 : decode cX4_count 62 = .ok (.getfield 56, 3) := kq.at kqdX4_count_41 12 rfl
theorem dX4_count_65 : decode cX4_count 65 = .ok (.iload 5, 2) := kq.at kqdX4_count_41 13 rfl
theorem dX4_count_67 : decode cX4_count 67 = .ok (.iaload, 1) := kq.at kqdX4_count_41 14 rfl
theorem dX4_count_68 : decode cX4_count 68 = .ok (.iadd, 1) := kq.at kqdX4_count_41 15 rfl
theorem dX4_count_69 : decode cX4_count 69 = .ok (.iaload, 1) := kq.at kqdX4_count_41 16 rfl
theorem dX4_count_70 : decode cX4_count 70 = .ok (.iadd, 1) := kq.at kqdX4_count_41 17 rfl
theorem dX4_count_71 : decode cX4_count 71 = .ok (.invokestatic 59, 3) := kq.at kqdX4_count_41 18 rfl
theorem dX4_count_74 : decode cX4_count 74 = .ok (.istore 4, 2) := kq.at kqdX4_count_41 19 rfl
theorem dX4_count_76 : decode cX4_count 76 = .ok (.iinc 5 1, 3) := kq.at kqdX4_count_41 20 rfl
theorem dX4_count_79 : decode cX4_count 79 = .ok (.goto (-47), 3) := kq.at kqdX4_count_41 21 rfl
theorem dX4_count_82 : decode cX4_count 82 = .ok (.aload_n 0, 1) := kq.at kqdX4_count_41 22 rfl
theorem dX4_count_83 : decode cX4_count 83 = .ok (.getfield 31, 3) := kq.at kqdX4_count_41 23 rfl
theorem kqdX4_count_86 : kq cX4_count [(86, .iload_n 3, 1), (87, .iload 4, 2), (89, .iastore, 1), (90, .iinc 3 (-1), 3), (93, .goto (-71), 3), (96, .return_, 1)] = true := by decide +kernel
theorem dX4_count_86 : decode cX4_count 86 = .ok (.iload_n 3, 1) := kq.at kqdX4_count_86 0 rfl
theorem dX4_count_87 : decode cX4_count 87 = .ok (.iload 4, 2) := kq.at kqdX4_count_86 1 rfl
theorem dX4_count_89 : decode cX4_count 89 = .ok (.iastore, 1) := kq.at kqdX4_count_86 2 rfl
theorem dX4_count_90 : decode cX4_count 90 = .ok (.iinc 3 (-1), 3) := kq.at kqdX4_count_86 3 rfl
theorem dX4_count_93 : decode cX4_count 93 = .ok (.goto (-71), 3) := kq.at kqdX4_count_86 4 rfl
theorem dX4_count_96 : decode cX4_count 96 = .ok (.return_, 1) := kq.at kqdX4_count_86 5 rfl
theorem kqdX4_readings_0 : kq cX4_readings [(0, .aload_n 0, 1), (1, .getfield 31, 3), (4, .iconst 0, 1), (5, .iaload, 1), (6, .ireturn, 1)] = true := by decide +kernel
theorem dX4_readings_0 : decode cX4_readings 0 = .ok (.aload_n 0, 1) := kq.at kqdX4_readings_0 0 rfl
theorem dX4_readings_1 : decode cX4_readings 1 = .ok (.getfield 31, 3) := kq.at kqdX4_readings_0 1 rfl
theorem dX4_readings_4 : decode cX4_readings 4 = .ok (.iconst 0, 1) := kq.at kqdX4_readings_0 2 rfl
theorem dX4_readings_5 : decode cX4_readings 5 = .ok (.iaload, 1) := kq.at kqdX4_readings_0 3 rfl
theorem dX4_readings_6 : decode cX4_readings 6 = .ok (.ireturn, 1) := kq.at kqdX4_readings_0 4 rfl
theorem kqdX4_goesOn_0 : kq cX4_goesOn [(0, .iload_n 2, 1), (1, .aload_n 3, 1), (2, .getfield 56, 3), (5, .iload_n 1, 1), (6, .iaload, 1), (7, .iadd, 1), (8, .istore 4, 2), (10, .iload 4, 2), (12, .aload_n 0, 1), (13, .getfield 28, 3), (16, .if_icmp .gt 21, 3), (19, .aload_n 3, 1), (20, .iload_n 1, 1), (21, .invokevirtual 65, 3), (24, .ifCond .eq 13, 3), (27, .aload_n 0, 1), (28, .getfield 31, 3), (31, .iload 4, 2), (33, .iaload, 1), (34, .ifCond .ne 5, 3), (37, .iconst 0, 1), (38, .ireturn, 1), (39, .iload_n 2, 1), (40, .istore 5, 2)] = true := by decide +kernel
theorem dX4_goesOn_0 : decode cX4_goesOn 0 = .ok (.iload_n 2, 1) := kq.at kqdX4_goesOn_0 0 rfl
theorem dX4_goesOn_1 : decode cX4_goesOn 1 = .ok (.aload_n 3, 1) := kq.at kqdX4_goesOn_0 1 rfl
theorem dX4_goesOn_2 : decode cX4_goesOn 2 = .ok (.getfield 56, 3) := kq.at kqdX4_goesOn_0 2 rfl
theorem dX4_goesOn_5 : decode cX4_goesOn 5 = .ok (.iload_n 1, 1) := kq.at kqdX4_goesOn_0 3 rfl
theorem dX4_goesOn_6 : decode cX4_goesOn 6 = .ok (.iaload, 1) := kq.at kqdX4_goesOn_0 4 rfl
theorem dX4_goesOn_7 : decode cX4_goesOn 7 = .ok (.iadd, 1) := kq.at kqdX4_goesOn_0 5 rfl
theorem dX4_goesOn_8 : decode cX4_goesOn 8 = .ok (.istore 4, 2) := kq.at kqdX4_goesOn_0 6 rfl
theorem dX4_goesOn_10 : decode cX4_goesOn 10 = .ok (.iload 4, 2) := kq.at kqdX4_goesOn_0 7 rfl
theorem dX4_goesOn_12 : decode cX4_goesOn 12 = .ok (.aload_n 0, 1) := kq.at kqdX4_goesOn_0 8 rfl
theorem dX4_goesOn_13 : decode cX4_goesOn 13 = .ok (.getfield 28, 3) := kq.at kqdX4_goesOn_0 9 rfl
theorem dX4_goesOn_16 : decode cX4_goesOn 16 = .ok (.if_icmp .gt 21, 3) := kq.at kqdX4_goesOn_0 10 rfl
theorem dX4_goesOn_19 : decode cX4_goesOn 19 = .ok (.aload_n 3, 1) := kq.at kqdX4_goesOn_0 11 rfl
theorem dX4_goesOn_20 : decode cX4_goesOn 20 = .ok (.iload_n 1, 1) := kq.at kqdX4_goesOn_0 12 rfl
theorem dX4_goesOn_21 : decode cX4_goesOn 21 = .ok (.invokevirtual 65, 3) := kq.at kqdX4_goesOn_0 13 rfl
theorem dX4_goesOn_24 : decode cX4_goesOn 24 = .ok (.ifCond .eq 13, 3) := kq.at kqdX4_goesOn_0 14 rfl
theorem dX4_goesOn_27 : decode cX4_goesOn 27 = .ok (.aload_n 0, 1) := kq.at kqdX4_goesOn_0 15 rfl
theorem dX4_goesOn_28 : decode cX4_goesOn 28 = .ok (.getfield 31, 3) := kq.at kqdX4_goesOn_0 16 rfl
theorem dX4_goesOn_31 : decode cX4_goesOn 31 = .ok (.iload 4, 2) := kq.at kqdX4_goesOn_0 17 rfl
theorem dX4_goesOn_33 : decode cX4_goesOn 33 = .ok (.iaload, 1) := kq.at kqdX4_goesOn_0 18 rfl
theorem dX4_goesOn_34 : decode cX4_goesOn 34 = .ok (.ifCond .ne 5, 3) := kq.at kqdX4_goesOn_0 19 rfl
theorem dX4_goesOn_37 : decode cX4_goesOn 37 = .ok (.iconst 0, 1) := kq.at kqdX4_goesOn_0 20 rfl
theorem dX4_goesOn_38 : decode cX4_goesOn 38 = .ok (.ireturn, 1) := kq.at kqdX4_goesOn_0 21 rfl
theorem dX4_goesOn_39 : decode cX4_goesOn 39 = .ok (.iload_n 2, 1) := kq.at kqdX4_goesOn_0 22 rfl
theorem dX4_goesOn_40 : decode cX4_goesOn 40 = .ok (.istore 5, 2) := kq.at kqdX4_goesOn_0 23 rfl
theorem kqdX4_goesOn_42 : kq cX4_goesOn [(42, .iload 5, 2), (44, .iload 4, 2), (46, .if_icmp .ge 41, 3), (49, .aload_n 3, 1), (50, .iload_n 1, 1), (51, .iload 5, 2), (53, .iload_n 2, 1), (54, .isub, 1), (55, .invokevirtual 69, 3), (58, .aload_n 0, 1), (59, .getfield 22, 3), (62, .iload 5, 2), (64, .iaload, 1), (65, .ixor, 1), (66, .aload_n 0, 1), (67, .getfield 25, 3), (70, .iload 5, 2), (72, .iaload, 1), (73, .iconst (-1), 1), (74, .ixor, 1), (75, .iand, 1), (76, .ifCond .eq 5, 3), (79, .iconst 0, 1), (80, .ireturn, 1)] = true := by decide +kernel
theorem dX4_goesOn_42 : decode cX4_goesOn 42 = .ok (.iload 5, 2) := kq.at kqdX4_goesOn_42 0 rfl
theorem dX4_goesOn_44 : decode cX4_goesOn 44 = .ok (.iload 4, 2) := kq.at kqdX4_goesOn_42 1 rfl
theorem dX4_goesOn_46 : decode cX4_goesOn 46 = .ok (.if_icmp .ge 41, 3) := kq.at kqdX4_goesOn_42 2 rfl
theorem dX4_goesOn_49 : decode cX4_goesOn 49 = .ok (.aload_n 3, 1) := kq.at kqdX4_goesOn_42 3 rfl
theorem dX4_goesOn_50 : decode cX4_goesOn 50 = .ok (.iload_n 1, 1) := kq.at kqdX4_goesOn_42 4 rfl
theorem dX4_goesOn_51 : decode cX4_goesOn 51 = .ok (.iload 5, 2) := kq.at kqdX4_goesOn_42 5 rfl
theorem dX4_goesOn_53 : decode cX4_goesOn 53 = .ok (.iload_n 2, 1) := kq.at kqdX4_goesOn_42 6 rfl
theorem dX4_goesOn_54 : decode cX4_goesOn 54 = .ok (.isub, 1) := kq.at kqdX4_goesOn_42 7 rfl
theorem dX4_goesOn_55 : decode cX4_goesOn 55 = .ok (.invokevirtual 69, 3) := kq.at kqdX4_goesOn_42 8 rfl
theorem dX4_goesOn_58 : decode cX4_goesOn 58 = .ok (.aload_n 0, 1) := kq.at kqdX4_goesOn_42 9 rfl
theorem dX4_goesOn_59 : decode cX4_goesOn 59 = .ok (.getfield 22, 3) := kq.at kqdX4_goesOn_42 10 rfl
theorem dX4_goesOn_62 : decode cX4_goesOn 62 = .ok (.iload 5, 2) := kq.at kqdX4_goesOn_42 11 rfl
theorem dX4_goesOn_64 : decode cX4_goesOn 64 = .ok (.iaload, 1) := kq.at kqdX4_goesOn_42 12 rfl
theorem dX4_goesOn_65 : decode cX4_goesOn 65 = .ok (.ixor, 1) := kq.at kqdX4_goesOn_42 13 rfl
theorem dX4_goesOn_66 : decode cX4_goesOn 66 = .ok (.aload_n 0, 1) := kq.at kqdX4_goesOn_42 14 rfl
theorem dX4_goesOn_67 : decode cX4_goesOn 67 = .ok (.getfield 25, 3) := kq.at kqdX4_goesOn_42 15 rfl
theorem dX4_goesOn_70 : decode cX4_goesOn 70 = .ok (.iload 5, 2) := kq.at kqdX4_goesOn_42 16 rfl
theorem dX4_goesOn_72 : decode cX4_goesOn 72 = .ok (.iaload, 1) := kq.at kqdX4_goesOn_42 17 rfl
theorem dX4_goesOn_73 : decode cX4_goesOn 73 = .ok (.iconst (-1), 1) := kq.at kqdX4_goesOn_42 18 rfl
theorem dX4_goesOn_74 : decode cX4_goesOn 74 = .ok (.ixor, 1) := kq.at kqdX4_goesOn_42 19 rfl
theorem dX4_goesOn_75 : decode cX4_goesOn 75 = .ok (.iand, 1) := kq.at kqdX4_goesOn_42 20 rfl
theorem dX4_goesOn_76 : decode cX4_goesOn 76 = .ok (.ifCond .eq 5, 3) := kq.at kqdX4_goesOn_42 21 rfl
theorem dX4_goesOn_79 : decode cX4_goesOn 79 = .ok (.iconst 0, 1) := kq.at kqdX4_goesOn_42 22 rfl
theorem dX4_goesOn_80 : decode cX4_goesOn 80 = .ok (.ireturn, 1) := kq.at kqdX4_goesOn_42 23 rfl
theorem kqdX4_goesOn_81 : kq cX4_goesOn [(81, .iinc 5 1, 3), (84, .goto (-42), 3), (87, .aload_n 3, 1), (88, .iload_n 1, 1), (89, .iload_n 2, 1), (90, .ifCond .ne 7, 3), (93, .iconst 1, 1), (94, .goto 4, 3), (97, .iconst 0, 1), (98, .iload 4, 2), (100, .aload_n 0, 1), (101, .getfield 28, 3), (104, .if_icmp .ne 7, 3), (107, .iconst 1, 1), (108, .goto 4, 3), (111, .iconst 0, 1), (112, .invokevirtual 72, 3), (115, .ireturn, 1)] = true := by decide +kernel
theorem dX4_goesOn_81 : decode cX4_goesOn 81 = .ok (.iinc 5 1, 3) := kq.at kqdX4_goesOn_81 0 rfl
theorem dX4_goesOn_84 : decode cX4_goesOn 84 = .ok (.goto (-42), 3) := kq.at kqdX4_goesOn_81 1 rfl
theorem dX4_goesOn_87 : decode cX4_goesOn 87 = .ok (.aload_n 3, 1) := kq.at kqdX4_goesOn_81 2 rfl
theorem dX4_goesOn_88 : decode cX4_goesOn 88 = .ok (.iload_n 1, 1) := kq.at kqdX4_goesOn_81 3 rfl
theorem dX4_goesOn_89 : decode cX4_goesOn 89 = .ok (.iload_n 2, 1) := kq.at kqdX4_goesOn_81 4 rfl
theorem dX4_goesOn_90 : decode cX4_goesOn 90 = .ok (.ifCond .ne 7, 3) := kq.at kqdX4_goesOn_81 5 rfl
theorem dX4_goesOn_93 : decode cX4_goesOn 93 = .ok (.iconst 1, 1) := kq.at kqdX4_goesOn_81 6 rfl
theorem dX4_goesOn_94 : decode cX4_goesOn 94 = .ok (.goto 4, 3) := kq.at kqdX4_goesOn_81 7 rfl
theorem dX4_goesOn_97 : decode cX4_goesOn 97 = .ok (.iconst 0, 1) := kq.at kqdX4_goesOn_81 8 rfl
theorem dX4_goesOn_98 : decode cX4_goesOn 98 = .ok (.iload 4, 2) := kq.at kqdX4_goesOn_81 9 rfl
theorem dX4_goesOn_100 : decode cX4_goesOn 100 = .ok (.aload_n 0, 1) := kq.at kqdX4_goesOn_81 10 rfl
theorem dX4_goesOn_101 : decode cX4_goesOn 101 = .ok (.getfield 28, 3) := kq.at kqdX4_goesOn_81 11 rfl
theorem dX4_goesOn_104 : decode cX4_goesOn 104 = .ok (.if_icmp .ne 7, 3) := kq.at kqdX4_goesOn_81 12 rfl
theorem dX4_goesOn_107 : decode cX4_goesOn 107 = .ok (.iconst 1, 1) := kq.at kqdX4_goesOn_81 13 rfl
theorem dX4_goesOn_108 : decode cX4_goesOn 108 = .ok (.goto 4, 3) := kq.at kqdX4_goesOn_81 14 rfl
theorem dX4_goesOn_111 : decode cX4_goesOn 111 = .ok (.iconst 0, 1) := kq.at kqdX4_goesOn_81 15 rfl
theorem dX4_goesOn_112 : decode cX4_goesOn 112 = .ok (.invokevirtual 72, 3) := kq.at kqdX4_goesOn_81 16 rfl
theorem dX4_goesOn_115 : decode cX4_goesOn 115 = .ok (.ireturn, 1) := kq.at kqdX4_goesOn_81 17 rfl
theorem kqdX4_findFirst_0 : kq cX4_findFirst [(0, .aload_n 0, 1), (1, .iconst 0, 1), (2, .putfield 9, 3), (5, .aload_n 0, 1), (6, .iconst 0, 1), (7, .putfield 15, 3), (10, .iconst 0, 1), (11, .istore_n 2, 1), (12, .iconst 0, 1), (13, .istore_n 3, 1), (14, .iload_n 3, 1), (15, .aload_n 0, 1), (16, .getfield 28, 3), (19, .if_icmp .ge 79, 3), (22, .iload_n 3, 1), (23, .iload_n 2, 1), (24, .if_icmp .ne 12, 3), (27, .aload_n 0, 1), (28, .iload_n 3, 1), (29, .aload_n 1, 1), (30, .invokevirtual 76, 3), (33, .goto 4, 3), (36, .iconst (-1), 1), (37, .istore 4, 2)] = true := by decide +kernel
theorem dX4_findFirst_0 : decode cX4_findFirst 0 = .ok (.aload_n 0, 1) := kq.at kqdX4_findFirst_0 0 rfl
theorem dX4_findFirst_1 : decode cX4_findFirst 1 = .ok (.iconst 0, 1) := kq.at kqdX4_findFirst_0 1 rfl
theorem dX4_findFirst_2 : decode cX4_findFirst 2 = .ok (.putfield 9, 3) := kq.at kqdX4_findFirst_0 2 rfl
theorem dX4_findFirst_5 : decode cX4_findFirst 5 = .ok (.aload_n 0, 1) := kq.at kqdX4_findFirst_0 3 rfl
theorem dX4_findFirst_6 : decode cX4_findFirst 6 = .ok (.iconst 0, 1) := kq.at kqdX4_findFirst_0 4 rfl
theorem dX4_findFirst_7 : decode cX4_findFirst 7 = .ok (.putfield 15, 3) := kq.at kqdX4_findFirst_0 5 rfl
theorem dX4_findFirst_10 : decode cX4_findFirst 10 = .ok (.iconst 0, 1) := kq.at kqdX4_findFirst_0 6 rfl
theorem dX4_findFirst_11 : decode cX4_findFirst 11 = .ok (.istore_n 2, 1) := kq.at kqdX4_findFirst_0 7 rfl
theorem dX4_findFirst_12 : decode cX4_findFirst 12 = .ok (.iconst 0, 1) := kq.at kqdX4_findFirst_0 8 rfl
theorem dX4_findFirst_13 : decode cX4_findFirst 13 = .ok (.istore_n 3, 1) := kq.at kqdX4_findFirst_0 9 rfl
theorem dX4_findFirst_14 : decode cX4_findFirst 14 = .ok (.iload_n 3, 1) := kq.at kqdX4_findFirst_0 10 rfl
theorem dX4_findFirst_15 : decode cX4_findFirst 15 = .ok (.aload_n 0, 1) := kq.at kqdX4_findFirst_0 11 rfl
theorem dX4_findFirst_16 : decode cX4_findFirst 16 = .ok (.getfield 28, 3) := kq.at kqdX4_findFirst_0 12 rfl
theorem dX4_findFirst_19 : decode cX4_findFirst 19 = .ok (.if_icmp .ge 79, 3) := kq.at kqdX4_findFirst_0 13 rfl
theorem dX4_findFirst_22 : decode cX4_findFirst 22 = .ok (.iload_n 3, 1) := kq.at kqdX4_findFirst_0 14 rfl
theorem dX4_findFirst_23 : decode cX4_findFirst 23 = .ok (.iload_n 2, 1) := kq.at kqdX4_findFirst_0 15 rfl
theorem dX4_findFirst_24 : decode cX4_findFirst 24 = .ok (.if_icmp .ne 12, 3) := kq.at kqdX4_findFirst_0 16 rfl
theorem dX4_findFirst_27 : decode cX4_findFirst 27 = .ok (.aload_n 0, 1) := kq.at kqdX4_findFirst_0 17 rfl
theorem dX4_findFirst_28 : decode cX4_findFirst 28 = .ok (.iload_n 3, 1) := kq.at kqdX4_findFirst_0 18 rfl
theorem dX4_findFirst_29 : decode cX4_findFirst 29 = .ok (.aload_n 1, 1) := kq.at kqdX4_findFirst_0 19 rfl
theorem dX4_findFirst_30 : decode cX4_findFirst 30 = .ok (.invokevirtual 76, 3) := kq.at kqdX4_findFirst_0 20 rfl
theorem dX4_findFirst_33 : decode cX4_findFirst 33 = .ok (.goto 4, 3) := kq.at kqdX4_findFirst_0 21 rfl
theorem dX4_findFirst_36 : decode cX4_findFirst 36 = .ok (.iconst (-1), 1) := kq.at kqdX4_findFirst_0 22 rfl
theorem dX4_findFirst_37 : decode cX4_findFirst 37 = .ok (.istore 4, 2) := kq.at kqdX4_findFirst_0 23 rfl
theorem kqdX4_findFirst_39 : kq cX4_findFirst [(39, .iload 4, 2), (41, .iconst (-1), 1), (42, .if_icmp .eq 50, 3), (45, .aload_n 0, 1), (46, .getfield 18, 3), (49, .aload_n 0, 1), (50, .getfield 9, 3), (53, .iload 4, 2), (55, .iastore, 1), (56, .aload_n 0, 1), (57, .dup, 1), (58, .getfield 9, 3), (61, .iconst 1, 1), (62, .iadd, 1), (63, .putfield 9, 3), (66, .aload_n 0, 1), (67, .dup, 1), (68, .getfield 15, 3), (71, .aload_n 1, 1), (72, .getfield 80, 3), (75, .iload 4, 2), (77, .iaload, 1), (78, .iadd, 1), (79, .putfield 15, 3)] = true := by decide +kernel
theorem dX4_findFirst_39 : decode cX4_findFirst 39 = .ok (.iload 4, 2) := kq.at kqdX4_findFirst_39 0 rfl
theorem dX4_findFirst_41 : decode cX4_findFirst 41 = .ok (.iconst (-1), 1) := kq.at kqdX4_findFirst_39 1 rfl
theorem dX4_findFirst_42 : decode cX4_findFirst 42 = .ok (.if_icmp .eq 50, 3) := kq.at kqdX4_findFirst_39 2 rfl
theorem dX4_findFirst_45 : decode cX4_findFirst 45 = .ok (.aload_n 0, 1) := kq.at kqdX4_findFirst_39 3 rfl
theorem dX4_findFirst_46 : decode cX4_findFirst 46 = .ok (.getfield 18, 3) := kq.at kqdX4_findFirst_39 4 rfl
theorem dX4_findFirst_49 : decode cX4_findFirst 49 = .ok (.aload_n 0, 1) := kq.at kqdX4_findFirst_39 5 rfl
theorem dX4_findFirst_50 : decode cX4_findFirst 50 = .ok (.getfield 9, 3) := kq.at kqdX4_findFirst_39 6 rfl
theorem dX4_findFirst_53 : decode cX4_findFirst 53 = .ok (.iload 4, 2) := kq.at kqdX4_findFirst_39 7 rfl
theorem dX4_findFirst_55 : decode cX4_findFirst 55 = .ok (.iastore, 1) := kq.at kqdX4_findFirst_39 8 rfl
theorem dX4_findFirst_56 : decode cX4_findFirst 56 = .ok (.aload_n 0, 1) := kq.at kqdX4_findFirst_39 9 rfl
theorem dX4_findFirst_57 : decode cX4_findFirst 57 = .ok (.dup, 1) := kq.at kqdX4_findFirst_39 10 rfl
theorem dX4_findFirst_58 : decode cX4_findFirst 58 = .ok (.getfield 9, 3) := kq.at kqdX4_findFirst_39 11 rfl
theorem dX4_findFirst_61 : decode cX4_findFirst 61 = .ok (.iconst 1, 1) := kq.at kqdX4_findFirst_39 12 rfl
theorem dX4_findFirst_62 : decode cX4_findFirst 62 = .ok (.iadd, 1) := kq.at kqdX4_findFirst_39 13 rfl
theorem dX4_findFirst_63 : decode cX4_findFirst 63 = .ok (.putfield 9, 3) := kq.at kqdX4_findFirst_39 14 rfl
theorem dX4_findFirst_66 : decode cX4_findFirst 66 = .ok (.aload_n 0, 1) := kq.at kqdX4_findFirst_39 15 rfl
theorem dX4_findFirst_67 : decode cX4_findFirst 67 = .ok (.dup, 1) := kq.at kqdX4_findFirst_39 16 rfl
theorem dX4_findFirst_68 : decode cX4_findFirst 68 = .ok (.getfield 15, 3) := kq.at kqdX4_findFirst_39 17 rfl
theorem dX4_findFirst_71 : decode cX4_findFirst 71 = .ok (.aload_n 1, 1) := kq.at kqdX4_findFirst_39 18 rfl
theorem dX4_findFirst_72 : decode cX4_findFirst 72 = .ok (.getfield 80, 3) := kq.at kqdX4_findFirst_39 19 rfl
theorem dX4_findFirst_75 : decode cX4_findFirst 75 = .ok (.iload 4, 2) := kq.at kqdX4_findFirst_39 20 rfl
theorem dX4_findFirst_77 : decode cX4_findFirst 77 = .ok (.iaload, 1) := kq.at kqdX4_findFirst_39 21 rfl
theorem dX4_findFirst_78 : decode cX4_findFirst 78 = .ok (.iadd, 1) := kq.at kqdX4_findFirst_39 22 rfl
theorem dX4_findFirst_79 : decode cX4_findFirst 79 = .ok (.putfield 15, 3) := kq.at kqdX4_findFirst_39 23 rfl
theorem kqdX4_findFirst_82 : kq cX4_findFirst [(82, .iload_n 3, 1), (83, .aload_n 1, 1), (84, .getfield 56, 3), (87, .iload 4, 2), (89, .iaload, 1), (90, .iadd, 1), (91, .istore_n 2, 1), (92, .iinc 3 1, 3), (95, .goto (-81), 3), (98, .return_, 1)] = true := by decide +kernel
theorem dX4_findFirst_82 : decode cX4_findFirst 82 = .ok (.iload_n 3, 1) := kq.at kqdX4_findFirst_82 0 rfl
theorem dX4_findFirst_83 : decode cX4_findFirst 83 = .ok (.aload_n 1, 1) := kq.at kqdX4_findFirst_82 1 rfl
theorem dX4_findFirst_84 : decode cX4_findFirst 84 = .ok (.getfield 56, 3) := kq.at kqdX4_findFirst_82 2 rfl
theorem dX4_findFirst_87 : decode cX4_findFirst 87 = .ok (.iload 4, 2) := kq.at kqdX4_findFirst_82 3 rfl
theorem dX4_findFirst_89 : decode cX4_findFirst 89 = .ok (.iaload, 1) := kq.at kqdX4_findFirst_82 4 rfl
theorem dX4_findFirst_90 : decode cX4_findFirst 90 = .ok (.iadd, 1) := kq.at kqdX4_findFirst_82 5 rfl
theorem dX4_findFirst_91 : decode cX4_findFirst 91 = .ok (.istore_n 2, 1) := kq.at kqdX4_findFirst_82 6 rfl
theorem dX4_findFirst_92 : decode cX4_findFirst 92 = .ok (.iinc 3 1, 3) := kq.at kqdX4_findFirst_82 7 rfl
theorem dX4_findFirst_95 : decode cX4_findFirst 95 = .ok (.goto (-81), 3) := kq.at kqdX4_findFirst_82 8 rfl
theorem dX4_findFirst_98 : decode cX4_findFirst 98 = .ok (.return_, 1) := kq.at kqdX4_findFirst_82 9 rfl
theorem kqdX4_lowestAt_0 : kq cX4_lowestAt [(0, .iconst 0, 1), (1, .istore_n 3, 1), (2, .iload_n 3, 1), (3, .aload_n 2, 1), (4, .getfield 46, 3), (7, .if_icmp .ge 21, 3), (10, .aload_n 0, 1), (11, .iload_n 3, 1), (12, .iload_n 1, 1), (13, .aload_n 2, 1), (14, .invokevirtual 51, 3), (17, .ifCond .eq 5, 3), (20, .iload_n 3, 1), (21, .ireturn, 1), (22, .iinc 3 1, 3), (25, .goto (-23), 3), (28, .iconst (-1), 1), (29, .ireturn, 1)] = true := by decide +kernel
theorem dX4_lowestAt_0 : decode cX4_lowestAt 0 = .ok (.iconst 0, 1) := kq.at kqdX4_lowestAt_0 0 rfl
theorem dX4_lowestAt_1 : decode cX4_lowestAt 1 = .ok (.istore_n 3, 1) := kq.at kqdX4_lowestAt_0 1 rfl
theorem dX4_lowestAt_2 : decode cX4_lowestAt 2 = .ok (.iload_n 3, 1) := kq.at kqdX4_lowestAt_0 2 rfl
theorem dX4_lowestAt_3 : decode cX4_lowestAt 3 = .ok (.aload_n 2, 1) := kq.at kqdX4_lowestAt_0 3 rfl
theorem dX4_lowestAt_4 : decode cX4_lowestAt 4 = .ok (.getfield 46, 3) := kq.at kqdX4_lowestAt_0 4 rfl
theorem dX4_lowestAt_7 : decode cX4_lowestAt 7 = .ok (.if_icmp .ge 21, 3) := kq.at kqdX4_lowestAt_0 5 rfl
theorem dX4_lowestAt_10 : decode cX4_lowestAt 10 = .ok (.aload_n 0, 1) := kq.at kqdX4_lowestAt_0 6 rfl
theorem dX4_lowestAt_11 : decode cX4_lowestAt 11 = .ok (.iload_n 3, 1) := kq.at kqdX4_lowestAt_0 7 rfl
theorem dX4_lowestAt_12 : decode cX4_lowestAt 12 = .ok (.iload_n 1, 1) := kq.at kqdX4_lowestAt_0 8 rfl
theorem dX4_lowestAt_13 : decode cX4_lowestAt 13 = .ok (.aload_n 2, 1) := kq.at kqdX4_lowestAt_0 9 rfl
theorem dX4_lowestAt_14 : decode cX4_lowestAt 14 = .ok (.invokevirtual 51, 3) := kq.at kqdX4_lowestAt_0 10 rfl
theorem dX4_lowestAt_17 : decode cX4_lowestAt 17 = .ok (.ifCond .eq 5, 3) := kq.at kqdX4_lowestAt_0 11 rfl
theorem dX4_lowestAt_20 : decode cX4_lowestAt 20 = .ok (.iload_n 3, 1) := kq.at kqdX4_lowestAt_0 12 rfl
theorem dX4_lowestAt_21 : decode cX4_lowestAt 21 = .ok (.ireturn, 1) := kq.at kqdX4_lowestAt_0 13 rfl
theorem dX4_lowestAt_22 : decode cX4_lowestAt 22 = .ok (.iinc 3 1, 3) := kq.at kqdX4_lowestAt_0 14 rfl
theorem dX4_lowestAt_25 : decode cX4_lowestAt 25 = .ok (.goto (-23), 3) := kq.at kqdX4_lowestAt_0 15 rfl
theorem dX4_lowestAt_28 : decode cX4_lowestAt 28 = .ok (.iconst (-1), 1) := kq.at kqdX4_lowestAt_0 16 rfl
theorem dX4_lowestAt_29 : decode cX4_lowestAt 29 = .ok (.ireturn, 1) := kq.at kqdX4_lowestAt_0 17 rfl
theorem kqdX4_trueReadings_0 : kq cX4_trueReadings [(0, .aload_n 0, 1), (1, .aload_n 1, 1), (2, .iconst 0, 1), (3, .iconst 0, 1), (4, .invokestatic 83, 3), (7, .ireturn, 1)] = true := by decide +kernel
theorem dX4_trueReadings_0 : decode cX4_trueReadings 0 = .ok (.aload_n 0, 1) := kq.at kqdX4_trueReadings_0 0 rfl
theorem dX4_trueReadings_1 : decode cX4_trueReadings 1 = .ok (.aload_n 1, 1) := kq.at kqdX4_trueReadings_0 1 rfl
theorem dX4_trueReadings_2 : decode cX4_trueReadings 2 = .ok (.iconst 0, 1) := kq.at kqdX4_trueReadings_0 2 rfl
theorem dX4_trueReadings_3 : decode cX4_trueReadings 3 = .ok (.iconst 0, 1) := kq.at kqdX4_trueReadings_0 3 rfl
theorem dX4_trueReadings_4 : decode cX4_trueReadings 4 = .ok (.invokestatic 83, 3) := kq.at kqdX4_trueReadings_0 4 rfl
theorem dX4_trueReadings_7 : decode cX4_trueReadings 7 = .ok (.ireturn, 1) := kq.at kqdX4_trueReadings_0 5 rfl
theorem kqdX4_trueFrom_0 : kq cX4_trueFrom [(0, .iload_n 3, 1), (1, .aload_n 0, 1), (2, .getfield 28, 3), (5, .if_icmp .ge 9, 3), (8, .iload_n 2, 1), (9, .bipush 20, 2), (11, .if_icmp .lt 26, 3), (14, .iload_n 3, 1), (15, .aload_n 0, 1), (16, .getfield 28, 3), (19, .if_icmp .ne 16, 3), (22, .aload_n 0, 1), (23, .aload_n 1, 1), (24, .iload_n 2, 1), (25, .invokevirtual 87, 3), (28, .ifCond .eq 7, 3), (31, .iconst 1, 1), (32, .goto 4, 3), (35, .iconst 0, 1), (36, .ireturn, 1), (37, .iconst 0, 1), (38, .istore 4, 2), (40, .iconst 0, 1), (41, .istore 5, 2)] = true := by decide +kernel
theorem dX4_trueFrom_0 : decode cX4_trueFrom 0 = .ok (.iload_n 3, 1) := kq.at kqdX4_trueFrom_0 0 rfl
theorem dX4_trueFrom_1 : decode cX4_trueFrom 1 = .ok (.aload_n 0, 1) := kq.at kqdX4_trueFrom_0 1 rfl
theorem dX4_trueFrom_2 : decode cX4_trueFrom 2 = .ok (.getfield 28, 3) := kq.at kqdX4_trueFrom_0 2 rfl
theorem dX4_trueFrom_5 : decode cX4_trueFrom 5 = .ok (.if_icmp .ge 9, 3) := kq.at kqdX4_trueFrom_0 3 rfl
theorem dX4_trueFrom_8 : decode cX4_trueFrom 8 = .ok (.iload_n 2, 1) := kq.at kqdX4_trueFrom_0 4 rfl
theorem dX4_trueFrom_9 : decode cX4_trueFrom 9 = .ok (.bipush 20, 2) := kq.at kqdX4_trueFrom_0 5 rfl
theorem dX4_trueFrom_11 : decode cX4_trueFrom 11 = .ok (.if_icmp .lt 26, 3) := kq.at kqdX4_trueFrom_0 6 rfl
theorem dX4_trueFrom_14 : decode cX4_trueFrom 14 = .ok (.iload_n 3, 1) := kq.at kqdX4_trueFrom_0 7 rfl
theorem dX4_trueFrom_15 : decode cX4_trueFrom 15 = .ok (.aload_n 0, 1) := kq.at kqdX4_trueFrom_0 8 rfl
theorem dX4_trueFrom_16 : decode cX4_trueFrom 16 = .ok (.getfield 28, 3) := kq.at kqdX4_trueFrom_0 9 rfl
theorem dX4_trueFrom_19 : decode cX4_trueFrom 19 = .ok (.if_icmp .ne 16, 3) := kq.at kqdX4_trueFrom_0 10 rfl
theorem dX4_trueFrom_22 : decode cX4_trueFrom 22 = .ok (.aload_n 0, 1) := kq.at kqdX4_trueFrom_0 11 rfl
theorem dX4_trueFrom_23 : decode cX4_trueFrom 23 = .ok (.aload_n 1, 1) := kq.at kqdX4_trueFrom_0 12 rfl
theorem dX4_trueFrom_24 : decode cX4_trueFrom 24 = .ok (.iload_n 2, 1) := kq.at kqdX4_trueFrom_0 13 rfl
theorem dX4_trueFrom_25 : decode cX4_trueFrom 25 = .ok (.invokevirtual 87, 3) := kq.at kqdX4_trueFrom_0 14 rfl
theorem dX4_trueFrom_28 : decode cX4_trueFrom 28 = .ok (.ifCond .eq 7, 3) := kq.at kqdX4_trueFrom_0 15 rfl
theorem dX4_trueFrom_31 : decode cX4_trueFrom 31 = .ok (.iconst 1, 1) := kq.at kqdX4_trueFrom_0 16 rfl
theorem dX4_trueFrom_32 : decode cX4_trueFrom 32 = .ok (.goto 4, 3) := kq.at kqdX4_trueFrom_0 17 rfl
theorem dX4_trueFrom_35 : decode cX4_trueFrom 35 = .ok (.iconst 0, 1) := kq.at kqdX4_trueFrom_0 18 rfl
theorem dX4_trueFrom_36 : decode cX4_trueFrom 36 = .ok (.ireturn, 1) := kq.at kqdX4_trueFrom_0 19 rfl
theorem dX4_trueFrom_37 : decode cX4_trueFrom 37 = .ok (.iconst 0, 1) := kq.at kqdX4_trueFrom_0 20 rfl
theorem dX4_trueFrom_38 : decode cX4_trueFrom 38 = .ok (.istore 4, 2) := kq.at kqdX4_trueFrom_0 21 rfl
theorem dX4_trueFrom_40 : decode cX4_trueFrom 40 = .ok (.iconst 0, 1) := kq.at kqdX4_trueFrom_0 22 rfl
theorem dX4_trueFrom_41 : decode cX4_trueFrom 41 = .ok (.istore 5, 2) := kq.at kqdX4_trueFrom_0 23 rfl
theorem kqdX4_trueFrom_43 : kq cX4_trueFrom [(43, .iload 5, 2), (45, .aload_n 1, 1), (46, .getfield 46, 3), (49, .if_icmp .ge 53, 3), (52, .aload_n 0, 1), (53, .iload 5, 2), (55, .iload_n 3, 1), (56, .aload_n 1, 1), (57, .invokevirtual 51, 3), (60, .ifCond .eq 36, 3), (63, .aload_n 0, 1), (64, .iload 5, 2), (66, .aload_n 1, 1), (67, .iload_n 2, 1), (68, .invokevirtual 91, 3), (71, .ifCond .eq 25, 3), (74, .iload 4, 2), (76, .aload_n 0, 1), (77, .aload_n 1, 1), (78, .iload_n 2, 1), (79, .iconst 1, 1), (80, .iadd, 1), (81, .iload_n 3, 1), (82, .aload_n 1, 1)] = true := by decide +kernel
theorem dX4_trueFrom_43 : decode cX4_trueFrom 43 = .ok (.iload 5, 2) := kq.at kqdX4_trueFrom_43 0 rfl
theorem dX4_trueFrom_45 : decode cX4_trueFrom 45 = .ok (.aload_n 1, 1) := kq.at kqdX4_trueFrom_43 1 rfl
theorem dX4_trueFrom_46 : decode cX4_trueFrom 46 = .ok (.getfield 46, 3) := kq.at kqdX4_trueFrom_43 2 rfl
theorem dX4_trueFrom_49 : decode cX4_trueFrom 49 = .ok (.if_icmp .ge 53, 3) := kq.at kqdX4_trueFrom_43 3 rfl
theorem dX4_trueFrom_52 : decode cX4_trueFrom 52 = .ok (.aload_n 0, 1) := kq.at kqdX4_trueFrom_43 4 rfl
theorem dX4_trueFrom_53 : decode cX4_trueFrom 53 = .ok (.iload 5, 2) := kq.at kqdX4_trueFrom_43 5 rfl
theorem dX4_trueFrom_55 : decode cX4_trueFrom 55 = .ok (.iload_n 3, 1) := kq.at kqdX4_trueFrom_43 6 rfl
theorem dX4_trueFrom_56 : decode cX4_trueFrom 56 = .ok (.aload_n 1, 1) := kq.at kqdX4_trueFrom_43 7 rfl
theorem dX4_trueFrom_57 : decode cX4_trueFrom 57 = .ok (.invokevirtual 51, 3) := kq.at kqdX4_trueFrom_43 8 rfl
theorem dX4_trueFrom_60 : decode cX4_trueFrom 60 = .ok (.ifCond .eq 36, 3) := kq.at kqdX4_trueFrom_43 9 rfl
theorem dX4_trueFrom_63 : decode cX4_trueFrom 63 = .ok (.aload_n 0, 1) := kq.at kqdX4_trueFrom_43 10 rfl
theorem dX4_trueFrom_64 : decode cX4_trueFrom 64 = .ok (.iload 5, 2) := kq.at kqdX4_trueFrom_43 11 rfl
theorem dX4_trueFrom_66 : decode cX4_trueFrom 66 = .ok (.aload_n 1, 1) := kq.at kqdX4_trueFrom_43 12 rfl
theorem dX4_trueFrom_67 : decode cX4_trueFrom 67 = .ok (.iload_n 2, 1) := kq.at kqdX4_trueFrom_43 13 rfl
theorem dX4_trueFrom_68 : decode cX4_trueFrom 68 = .ok (.invokevirtual 91, 3) := kq.at kqdX4_trueFrom_43 14 rfl
theorem dX4_trueFrom_71 : decode cX4_trueFrom 71 = .ok (.ifCond .eq 25, 3) := kq.at kqdX4_trueFrom_43 15 rfl
theorem dX4_trueFrom_74 : decode cX4_trueFrom 74 = .ok (.iload 4, 2) := kq.at kqdX4_trueFrom_43 16 rfl
theorem dX4_trueFrom_76 : decode cX4_trueFrom 76 = .ok (.aload_n 0, 1) := kq.at kqdX4_trueFrom_43 17 rfl
theorem dX4_trueFrom_77 : decode cX4_trueFrom 77 = .ok (.aload_n 1, 1) := kq.at kqdX4_trueFrom_43 18 rfl
theorem dX4_trueFrom_78 : decode cX4_trueFrom 78 = .ok (.iload_n 2, 1) := kq.at kqdX4_trueFrom_43 19 rfl
theorem dX4_trueFrom_79 : decode cX4_trueFrom 79 = .ok (.iconst 1, 1) := kq.at kqdX4_trueFrom_43 20 rfl
theorem dX4_trueFrom_80 : decode cX4_trueFrom 80 = .ok (.iadd, 1) := kq.at kqdX4_trueFrom_43 21 rfl
theorem dX4_trueFrom_81 : decode cX4_trueFrom 81 = .ok (.iload_n 3, 1) := kq.at kqdX4_trueFrom_43 22 rfl
theorem dX4_trueFrom_82 : decode cX4_trueFrom 82 = .ok (.aload_n 1, 1) := kq.at kqdX4_trueFrom_43 23 rfl
theorem kqdX4_trueFrom_83 : kq cX4_trueFrom [(83, .getfield 56, 3), (86, .iload 5, 2), (88, .iaload, 1), (89, .iadd, 1), (90, .invokestatic 83, 3), (93, .iadd, 1), (94, .istore 4, 2), (96, .iinc 5 1, 3), (99, .goto (-56), 3), (102, .iload 4, 2), (104, .ireturn, 1)] = true := by decide +kernel
theorem dX4_trueFrom_83 : decode cX4_trueFrom 83 = .ok (.getfield 56, 3) := kq.at kqdX4_trueFrom_83 0 rfl
theorem dX4_trueFrom_86 : decode cX4_trueFrom 86 = .ok (.iload 5, 2) := kq.at kqdX4_trueFrom_83 1 rfl
theorem dX4_trueFrom_88 : decode cX4_trueFrom 88 = .ok (.iaload, 1) := kq.at kqdX4_trueFrom_83 2 rfl
theorem dX4_trueFrom_89 : decode cX4_trueFrom 89 = .ok (.iadd, 1) := kq.at kqdX4_trueFrom_83 3 rfl
theorem dX4_trueFrom_90 : decode cX4_trueFrom 90 = .ok (.invokestatic 83, 3) := kq.at kqdX4_trueFrom_83 4 rfl
theorem dX4_trueFrom_93 : decode cX4_trueFrom 93 = .ok (.iadd, 1) := kq.at kqdX4_trueFrom_83 5 rfl
theorem dX4_trueFrom_94 : decode cX4_trueFrom 94 = .ok (.istore 4, 2) := kq.at kqdX4_trueFrom_83 6 rfl
theorem dX4_trueFrom_96 : decode cX4_trueFrom 96 = .ok (.iinc 5 1, 3) := kq.at kqdX4_trueFrom_83 7 rfl
theorem dX4_trueFrom_99 : decode cX4_trueFrom 99 = .ok (.goto (-56), 3) := kq.at kqdX4_trueFrom_83 8 rfl
theorem dX4_trueFrom_102 : decode cX4_trueFrom 102 = .ok (.iload 4, 2) := kq.at kqdX4_trueFrom_83 9 rfl
theorem dX4_trueFrom_104 : decode cX4_trueFrom 104 = .ok (.ireturn, 1) := kq.at kqdX4_trueFrom_83 10 rfl
theorem kqdX4_staysTrue_0 : kq cX4_staysTrue [(0, .aload_n 0, 1), (1, .getfield 37, 3), (4, .iload_n 3, 1), (5, .iaload, 1), (6, .istore 4, 2), (8, .iconst 0, 1), (9, .istore 5, 2), (11, .iload 5, 2), (13, .aload_n 2, 1), (14, .getfield 80, 3), (17, .iload_n 1, 1), (18, .iaload, 1), (19, .if_icmp .ge 29, 3), (22, .aload_n 0, 1), (23, .getfield 34, 3), (26, .iload 4, 2), (28, .iload 5, 2), (30, .iadd, 1), (31, .bipush 96, 2), (33, .aload_n 2, 1), (34, .iload_n 1, 1), (35, .iload 5, 2), (37, .invokevirtual 95, 3), (40, .iadd, 1)] = true := by decide +kernel
theorem dX4_staysTrue_0 : decode cX4_staysTrue 0 = .ok (.aload_n 0, 1) := kq.at kqdX4_staysTrue_0 0 rfl
theorem dX4_staysTrue_1 : decode cX4_staysTrue 1 = .ok (.getfield 37, 3) := kq.at kqdX4_staysTrue_0 1 rfl
theorem dX4_staysTrue_4 : decode cX4_staysTrue 4 = .ok (.iload_n 3, 1) := kq.at kqdX4_staysTrue_0 2 rfl
theorem dX4_staysTrue_5 : decode cX4_staysTrue 5 = .ok (.iaload, 1) := kq.at kqdX4_staysTrue_0 3 rfl
theorem dX4_staysTrue_6 : decode cX4_staysTrue 6 = .ok (.istore 4, 2) := kq.at kqdX4_staysTrue_0 4 rfl
theorem dX4_staysTrue_8 : decode cX4_staysTrue 8 = .ok (.iconst 0, 1) := kq.at kqdX4_staysTrue_0 5 rfl
theorem dX4_staysTrue_9 : decode cX4_staysTrue 9 = .ok (.istore 5, 2) := kq.at kqdX4_staysTrue_0 6 rfl
theorem dX4_staysTrue_11 : decode cX4_staysTrue 11 = .ok (.iload 5, 2) := kq.at kqdX4_staysTrue_0 7 rfl
theorem dX4_staysTrue_13 : decode cX4_staysTrue 13 = .ok (.aload_n 2, 1) := kq.at kqdX4_staysTrue_0 8 rfl
theorem dX4_staysTrue_14 : decode cX4_staysTrue 14 = .ok (.getfield 80, 3) := kq.at kqdX4_staysTrue_0 9 rfl
theorem dX4_staysTrue_17 : decode cX4_staysTrue 17 = .ok (.iload_n 1, 1) := kq.at kqdX4_staysTrue_0 10 rfl
theorem dX4_staysTrue_18 : decode cX4_staysTrue 18 = .ok (.iaload, 1) := kq.at kqdX4_staysTrue_0 11 rfl
theorem dX4_staysTrue_19 : decode cX4_staysTrue 19 = .ok (.if_icmp .ge 29, 3) := kq.at kqdX4_staysTrue_0 12 rfl
theorem dX4_staysTrue_22 : decode cX4_staysTrue 22 = .ok (.aload_n 0, 1) := kq.at kqdX4_staysTrue_0 13 rfl
theorem dX4_staysTrue_23 : decode cX4_staysTrue 23 = .ok (.getfield 34, 3) := kq.at kqdX4_staysTrue_0 14 rfl
theorem dX4_staysTrue_26 : decode cX4_staysTrue 26 = .ok (.iload 4, 2) := kq.at kqdX4_staysTrue_0 15 rfl
theorem dX4_staysTrue_28 : decode cX4_staysTrue 28 = .ok (.iload 5, 2) := kq.at kqdX4_staysTrue_0 16 rfl
theorem dX4_staysTrue_30 : decode cX4_staysTrue 30 = .ok (.iadd, 1) := kq.at kqdX4_staysTrue_0 17 rfl
theorem dX4_staysTrue_31 : decode cX4_staysTrue 31 = .ok (.bipush 96, 2) := kq.at kqdX4_staysTrue_0 18 rfl
theorem dX4_staysTrue_33 : decode cX4_staysTrue 33 = .ok (.aload_n 2, 1) := kq.at kqdX4_staysTrue_0 19 rfl
theorem dX4_staysTrue_34 : decode cX4_staysTrue 34 = .ok (.iload_n 1, 1) := kq.at kqdX4_staysTrue_0 20 rfl
theorem dX4_staysTrue_35 : decode cX4_staysTrue 35 = .ok (.iload 5, 2) := kq.at kqdX4_staysTrue_0 21 rfl
theorem dX4_staysTrue_37 : decode cX4_staysTrue 37 = .ok (.invokevirtual 95, 3) := kq.at kqdX4_staysTrue_0 22 rfl
theorem dX4_staysTrue_40 : decode cX4_staysTrue 40 = .ok (.iadd, 1) := kq.at kqdX4_staysTrue_0 23 rfl
theorem kqdX4_staysTrue_41 : kq cX4_staysTrue [(41, .iastore, 1), (42, .iinc 5 1, 3), (45, .goto (-34), 3), (48, .iload 4, 2), (50, .aload_n 2, 1), (51, .getfield 80, 3), (54, .iload_n 1, 1), (55, .iaload, 1), (56, .iadd, 1), (57, .istore 4, 2), (59, .aload_n 0, 1), (60, .getfield 37, 3), (63, .iload_n 3, 1), (64, .iconst 1, 1), (65, .iadd, 1), (66, .iload 4, 2), (68, .iastore, 1), (69, .aload_n 0, 1), (70, .getfield 40, 3), (73, .iload_n 3, 1), (74, .iconst 1, 1), (75, .iadd, 1), (76, .aload_n 0, 1), (77, .getfield 40, 3)] = true := by decide +kernel
theorem dX4_staysTrue_41 : decode cX4_staysTrue 41 = .ok (.iastore, 1) := kq.at kqdX4_staysTrue_41 0 rfl
theorem dX4_staysTrue_42 : decode cX4_staysTrue 42 = .ok (.iinc 5 1, 3) := kq.at kqdX4_staysTrue_41 1 rfl
theorem dX4_staysTrue_45 : decode cX4_staysTrue 45 = .ok (.goto (-34), 3) := kq.at kqdX4_staysTrue_41 2 rfl
theorem dX4_staysTrue_48 : decode cX4_staysTrue 48 = .ok (.iload 4, 2) := kq.at kqdX4_staysTrue_41 3 rfl
theorem dX4_staysTrue_50 : decode cX4_staysTrue 50 = .ok (.aload_n 2, 1) := kq.at kqdX4_staysTrue_41 4 rfl
theorem dX4_staysTrue_51 : decode cX4_staysTrue 51 = .ok (.getfield 80, 3) := kq.at kqdX4_staysTrue_41 5 rfl
theorem dX4_staysTrue_54 : decode cX4_staysTrue 54 = .ok (.iload_n 1, 1) := kq.at kqdX4_staysTrue_41 6 rfl
theorem dX4_staysTrue_55 : decode cX4_staysTrue 55 = .ok (.iaload, 1) := kq.at kqdX4_staysTrue_41 7 rfl
theorem dX4_staysTrue_56 : decode cX4_staysTrue 56 = .ok (.iadd, 1) := kq.at kqdX4_staysTrue_41 8 rfl
theorem dX4_staysTrue_57 : decode cX4_staysTrue 57 = .ok (.istore 4, 2) := kq.at kqdX4_staysTrue_41 9 rfl
theorem dX4_staysTrue_59 : decode cX4_staysTrue 59 = .ok (.aload_n 0, 1) := kq.at kqdX4_staysTrue_41 10 rfl
theorem dX4_staysTrue_60 : decode cX4_staysTrue 60 = .ok (.getfield 37, 3) := kq.at kqdX4_staysTrue_41 11 rfl
theorem dX4_staysTrue_63 : decode cX4_staysTrue 63 = .ok (.iload_n 3, 1) := kq.at kqdX4_staysTrue_41 12 rfl
theorem dX4_staysTrue_64 : decode cX4_staysTrue 64 = .ok (.iconst 1, 1) := kq.at kqdX4_staysTrue_41 13 rfl
theorem dX4_staysTrue_65 : decode cX4_staysTrue 65 = .ok (.iadd, 1) := kq.at kqdX4_staysTrue_41 14 rfl
theorem dX4_staysTrue_66 : decode cX4_staysTrue 66 = .ok (.iload 4, 2) := kq.at kqdX4_staysTrue_41 15 rfl
theorem dX4_staysTrue_68 : decode cX4_staysTrue 68 = .ok (.iastore, 1) := kq.at kqdX4_staysTrue_41 16 rfl
theorem dX4_staysTrue_69 : decode cX4_staysTrue 69 = .ok (.aload_n 0, 1) := kq.at kqdX4_staysTrue_41 17 rfl
theorem dX4_staysTrue_70 : decode cX4_staysTrue 70 = .ok (.getfield 40, 3) := kq.at kqdX4_staysTrue_41 18 rfl
theorem dX4_staysTrue_73 : decode cX4_staysTrue 73 = .ok (.iload_n 3, 1) := kq.at kqdX4_staysTrue_41 19 rfl
theorem dX4_staysTrue_74 : decode cX4_staysTrue 74 = .ok (.iconst 1, 1) := kq.at kqdX4_staysTrue_41 20 rfl
theorem dX4_staysTrue_75 : decode cX4_staysTrue 75 = .ok (.iadd, 1) := kq.at kqdX4_staysTrue_41 21 rfl
theorem dX4_staysTrue_76 : decode cX4_staysTrue 76 = .ok (.aload_n 0, 1) := kq.at kqdX4_staysTrue_41 22 rfl
theorem dX4_staysTrue_77 : decode cX4_staysTrue 77 = .ok (.getfield 40, 3) := kq.at kqdX4_staysTrue_41 23 rfl
theorem kqdX4_staysTrue_80 : kq cX4_staysTrue [(80, .iload_n 3, 1), (81, .iaload, 1), (82, .iastore, 1), (83, .aload_n 0, 1), (84, .getfield 43, 3), (87, .iload_n 3, 1), (88, .iconst 1, 1), (89, .iadd, 1), (90, .aload_n 0, 1), (91, .getfield 43, 3), (94, .iload_n 3, 1), (95, .iaload, 1), (96, .iastore, 1), (97, .aload_n 0, 1), (98, .aload_n 2, 1), (99, .iload_n 3, 1), (100, .iconst 1, 1), (101, .iadd, 1), (102, .iload 4, 2), (104, .bipush 6, 2), (106, .isub, 1), (107, .invokevirtual 98, 3), (110, .ireturn, 1)] = true := by decide +kernel
theorem dX4_staysTrue_80 : decode cX4_staysTrue 80 = .ok (.iload_n 3, 1) := kq.at kqdX4_staysTrue_80 0 rfl
theorem dX4_staysTrue_81 : decode cX4_staysTrue 81 = .ok (.iaload, 1) := kq.at kqdX4_staysTrue_80 1 rfl
theorem dX4_staysTrue_82 : decode cX4_staysTrue 82 = .ok (.iastore, 1) := kq.at kqdX4_staysTrue_80 2 rfl
theorem dX4_staysTrue_83 : decode cX4_staysTrue 83 = .ok (.aload_n 0, 1) := kq.at kqdX4_staysTrue_80 3 rfl
theorem dX4_staysTrue_84 : decode cX4_staysTrue 84 = .ok (.getfield 43, 3) := kq.at kqdX4_staysTrue_80 4 rfl
theorem dX4_staysTrue_87 : decode cX4_staysTrue 87 = .ok (.iload_n 3, 1) := kq.at kqdX4_staysTrue_80 5 rfl
theorem dX4_staysTrue_88 : decode cX4_staysTrue 88 = .ok (.iconst 1, 1) := kq.at kqdX4_staysTrue_80 6 rfl
theorem dX4_staysTrue_89 : decode cX4_staysTrue 89 = .ok (.iadd, 1) := kq.at kqdX4_staysTrue_80 7 rfl
theorem dX4_staysTrue_90 : decode cX4_staysTrue 90 = .ok (.aload_n 0, 1) := kq.at kqdX4_staysTrue_80 8 rfl
theorem dX4_staysTrue_91 : decode cX4_staysTrue 91 = .ok (.getfield 43, 3) := kq.at kqdX4_staysTrue_80 9 rfl
theorem dX4_staysTrue_94 : decode cX4_staysTrue 94 = .ok (.iload_n 3, 1) := kq.at kqdX4_staysTrue_80 10 rfl
theorem dX4_staysTrue_95 : decode cX4_staysTrue 95 = .ok (.iaload, 1) := kq.at kqdX4_staysTrue_80 11 rfl
theorem dX4_staysTrue_96 : decode cX4_staysTrue 96 = .ok (.iastore, 1) := kq.at kqdX4_staysTrue_80 12 rfl
theorem dX4_staysTrue_97 : decode cX4_staysTrue 97 = .ok (.aload_n 0, 1) := kq.at kqdX4_staysTrue_80 13 rfl
theorem dX4_staysTrue_98 : decode cX4_staysTrue 98 = .ok (.aload_n 2, 1) := kq.at kqdX4_staysTrue_80 14 rfl
theorem dX4_staysTrue_99 : decode cX4_staysTrue 99 = .ok (.iload_n 3, 1) := kq.at kqdX4_staysTrue_80 15 rfl
theorem dX4_staysTrue_100 : decode cX4_staysTrue 100 = .ok (.iconst 1, 1) := kq.at kqdX4_staysTrue_80 16 rfl
theorem dX4_staysTrue_101 : decode cX4_staysTrue 101 = .ok (.iadd, 1) := kq.at kqdX4_staysTrue_80 17 rfl
theorem dX4_staysTrue_102 : decode cX4_staysTrue 102 = .ok (.iload 4, 2) := kq.at kqdX4_staysTrue_80 18 rfl
theorem dX4_staysTrue_104 : decode cX4_staysTrue 104 = .ok (.bipush 6, 2) := kq.at kqdX4_staysTrue_80 19 rfl
theorem dX4_staysTrue_106 : decode cX4_staysTrue 106 = .ok (.isub, 1) := kq.at kqdX4_staysTrue_80 20 rfl
theorem dX4_staysTrue_107 : decode cX4_staysTrue 107 = .ok (.invokevirtual 98, 3) := kq.at kqdX4_staysTrue_80 21 rfl
theorem dX4_staysTrue_110 : decode cX4_staysTrue 110 = .ok (.ireturn, 1) := kq.at kqdX4_staysTrue_80 22 rfl
theorem kqdX4_endsTrue_0 : kq cX4_endsTrue [(0, .aload_n 0, 1), (1, .aload_n 1, 1), (2, .iload_n 2, 1), (3, .aload_n 0, 1), (4, .getfield 37, 3), (7, .iload_n 2, 1), (8, .iaload, 1), (9, .invokevirtual 98, 3), (12, .ifCond .eq 20, 3), (15, .aload_n 0, 1), (16, .getfield 43, 3), (19, .iload_n 2, 1), (20, .iaload, 1), (21, .aload_n 0, 1), (22, .getfield 28, 3), (25, .if_icmp .ne 7, 3), (28, .iconst 1, 1), (29, .goto 4, 3), (32, .iconst 0, 1), (33, .ireturn, 1)] = true := by decide +kernel
theorem dX4_endsTrue_0 : decode cX4_endsTrue 0 = .ok (.aload_n 0, 1) := kq.at kqdX4_endsTrue_0 0 rfl
theorem dX4_endsTrue_1 : decode cX4_endsTrue 1 = .ok (.aload_n 1, 1) := kq.at kqdX4_endsTrue_0 1 rfl
theorem dX4_endsTrue_2 : decode cX4_endsTrue 2 = .ok (.iload_n 2, 1) := kq.at kqdX4_endsTrue_0 2 rfl
theorem dX4_endsTrue_3 : decode cX4_endsTrue 3 = .ok (.aload_n 0, 1) := kq.at kqdX4_endsTrue_0 3 rfl
theorem dX4_endsTrue_4 : decode cX4_endsTrue 4 = .ok (.getfield 37, 3) := kq.at kqdX4_endsTrue_0 4 rfl
theorem dX4_endsTrue_7 : decode cX4_endsTrue 7 = .ok (.iload_n 2, 1) := kq.at kqdX4_endsTrue_0 5 rfl
theorem dX4_endsTrue_8 : decode cX4_endsTrue 8 = .ok (.iaload, 1) := kq.at kqdX4_endsTrue_0 6 rfl
theorem dX4_endsTrue_9 : decode cX4_endsTrue 9 = .ok (.invokevirtual 98, 3) := kq.at kqdX4_endsTrue_0 7 rfl
theorem dX4_endsTrue_12 : decode cX4_endsTrue 12 = .ok (.ifCond .eq 20, 3) := kq.at kqdX4_endsTrue_0 8 rfl
theorem dX4_endsTrue_15 : decode cX4_endsTrue 15 = .ok (.aload_n 0, 1) := kq.at kqdX4_endsTrue_0 9 rfl
theorem dX4_endsTrue_16 : decode cX4_endsTrue 16 = .ok (.getfield 43, 3) := kq.at kqdX4_endsTrue_0 10 rfl
theorem dX4_endsTrue_19 : decode cX4_endsTrue 19 = .ok (.iload_n 2, 1) := kq.at kqdX4_endsTrue_0 11 rfl
theorem dX4_endsTrue_20 : decode cX4_endsTrue 20 = .ok (.iaload, 1) := kq.at kqdX4_endsTrue_0 12 rfl
theorem dX4_endsTrue_21 : decode cX4_endsTrue 21 = .ok (.aload_n 0, 1) := kq.at kqdX4_endsTrue_0 13 rfl
theorem dX4_endsTrue_22 : decode cX4_endsTrue 22 = .ok (.getfield 28, 3) := kq.at kqdX4_endsTrue_0 14 rfl
theorem dX4_endsTrue_25 : decode cX4_endsTrue 25 = .ok (.if_icmp .ne 7, 3) := kq.at kqdX4_endsTrue_0 15 rfl
theorem dX4_endsTrue_28 : decode cX4_endsTrue 28 = .ok (.iconst 1, 1) := kq.at kqdX4_endsTrue_0 16 rfl
theorem dX4_endsTrue_29 : decode cX4_endsTrue 29 = .ok (.goto 4, 3) := kq.at kqdX4_endsTrue_0 17 rfl
theorem dX4_endsTrue_32 : decode cX4_endsTrue 32 = .ok (.iconst 0, 1) := kq.at kqdX4_endsTrue_0 18 rfl
theorem dX4_endsTrue_33 : decode cX4_endsTrue 33 = .ok (.ireturn, 1) := kq.at kqdX4_endsTrue_0 19 rfl
theorem kqdX4_setText_0 : kq cX4_setText [(0, .aload_n 0, 1), (1, .getfield 37, 3), (4, .iload_n 2, 1), (5, .iaload, 1), (6, .istore 4, 2), (8, .aload_n 0, 1), (9, .getfield 40, 3), (12, .iload_n 2, 1), (13, .iaload, 1), (14, .istore 5, 2), (16, .iload 5, 2), (18, .iload_n 3, 1), (19, .if_icmp .ge 95, 3), (22, .iload 5, 2), (24, .aload_n 0, 1), (25, .getfield 40, 3), (28, .iload_n 2, 1), (29, .iaload, 1), (30, .if_icmp .ne 78, 3), (33, .aload_n 1, 1), (34, .aload_n 0, 1), (35, .getfield 34, 3), (38, .iconst 0, 1), (39, .iload 4, 2)] = true := by decide +kernel
theorem dX4_setText_0 : decode cX4_setText 0 = .ok (.aload_n 0, 1) := kq.at kqdX4_setText_0 0 rfl
theorem dX4_setText_1 : decode cX4_setText 1 = .ok (.getfield 37, 3) := kq.at kqdX4_setText_0 1 rfl
theorem dX4_setText_4 : decode cX4_setText 4 = .ok (.iload_n 2, 1) := kq.at kqdX4_setText_0 2 rfl
theorem dX4_setText_5 : decode cX4_setText 5 = .ok (.iaload, 1) := kq.at kqdX4_setText_0 3 rfl
theorem dX4_setText_6 : decode cX4_setText 6 = .ok (.istore 4, 2) := kq.at kqdX4_setText_0 4 rfl
theorem dX4_setText_8 : decode cX4_setText 8 = .ok (.aload_n 0, 1) := kq.at kqdX4_setText_0 5 rfl
theorem dX4_setText_9 : decode cX4_setText 9 = .ok (.getfield 40, 3) := kq.at kqdX4_setText_0 6 rfl
theorem dX4_setText_12 : decode cX4_setText 12 = .ok (.iload_n 2, 1) := kq.at kqdX4_setText_0 7 rfl
theorem dX4_setText_13 : decode cX4_setText 13 = .ok (.iaload, 1) := kq.at kqdX4_setText_0 8 rfl
theorem dX4_setText_14 : decode cX4_setText 14 = .ok (.istore 5, 2) := kq.at kqdX4_setText_0 9 rfl
theorem dX4_setText_16 : decode cX4_setText 16 = .ok (.iload 5, 2) := kq.at kqdX4_setText_0 10 rfl
theorem dX4_setText_18 : decode cX4_setText 18 = .ok (.iload_n 3, 1) := kq.at kqdX4_setText_0 11 rfl
theorem dX4_setText_19 : decode cX4_setText 19 = .ok (.if_icmp .ge 95, 3) := kq.at kqdX4_setText_0 12 rfl
theorem dX4_setText_22 : decode cX4_setText 22 = .ok (.iload 5, 2) := kq.at kqdX4_setText_0 13 rfl
theorem dX4_setText_24 : decode cX4_setText 24 = .ok (.aload_n 0, 1) := kq.at kqdX4_setText_0 14 rfl
theorem dX4_setText_25 : decode cX4_setText 25 = .ok (.getfield 40, 3) := kq.at kqdX4_setText_0 15 rfl
theorem dX4_setText_28 : decode cX4_setText 28 = .ok (.iload_n 2, 1) := kq.at kqdX4_setText_0 16 rfl
theorem dX4_setText_29 : decode cX4_setText 29 = .ok (.iaload, 1) := kq.at kqdX4_setText_0 17 rfl
theorem dX4_setText_30 : decode cX4_setText 30 = .ok (.if_icmp .ne 78, 3) := kq.at kqdX4_setText_0 18 rfl
theorem dX4_setText_33 : decode cX4_setText 33 = .ok (.aload_n 1, 1) := kq.at kqdX4_setText_0 19 rfl
theorem dX4_setText_34 : decode cX4_setText 34 = .ok (.aload_n 0, 1) := kq.at kqdX4_setText_0 20 rfl
theorem dX4_setText_35 : decode cX4_setText 35 = .ok (.getfield 34, 3) := kq.at kqdX4_setText_0 21 rfl
theorem dX4_setText_38 : decode cX4_setText 38 = .ok (.iconst 0, 1) := kq.at kqdX4_setText_0 22 rfl
theorem dX4_setText_39 : decode cX4_setText 39 = .ok (.iload 4, 2) := kq.at kqdX4_setText_0 23 rfl
theorem kqdX4_setText_41 : kq cX4_setText [(41, .iload 5, 2), (43, .aload_n 1, 1), (44, .getfield 102, 3), (47, .invokevirtual 105, 3), (50, .istore 6, 2), (52, .iload 6, 2), (54, .iconst (-1), 1), (55, .if_icmp .eq 19, 3), (58, .aload_n 0, 1), (59, .iload 6, 2), (61, .aload_n 0, 1), (62, .getfield 43, 3), (65, .iload_n 2, 1), (66, .iaload, 1), (67, .aload_n 1, 1), (68, .invokevirtual 109, 3), (71, .ifCond .ne 5, 3), (74, .iconst 0, 1), (75, .ireturn, 1), (76, .aload_n 0, 1), (77, .getfield 40, 3), (80, .iload_n 2, 1), (81, .dup2, 1), (82, .iaload, 1)] = true := by decide +kernel
theorem dX4_setText_41 : decode cX4_setText 41 = .ok (.iload 5, 2) := kq.at kqdX4_setText_41 0 rfl
theorem dX4_setText_43 : decode cX4_setText 43 = .ok (.aload_n 1, 1) := kq.at kqdX4_setText_41 1 rfl
theorem dX4_setText_44 : decode cX4_setText 44 = .ok (.getfield 102, 3) := kq.at kqdX4_setText_41 2 rfl
theorem dX4_setText_47 : decode cX4_setText 47 = .ok (.invokevirtual 105, 3) := kq.at kqdX4_setText_41 3 rfl
theorem dX4_setText_50 : decode cX4_setText 50 = .ok (.istore 6, 2) := kq.at kqdX4_setText_41 4 rfl
theorem dX4_setText_52 : decode cX4_setText 52 = .ok (.iload 6, 2) := kq.at kqdX4_setText_41 5 rfl
theorem dX4_setText_54 : decode cX4_setText 54 = .ok (.iconst (-1), 1) := kq.at kqdX4_setText_41 6 rfl
theorem dX4_setText_55 : decode cX4_setText 55 = .ok (.if_icmp .eq 19, 3) := kq.at kqdX4_setText_41 7 rfl
theorem dX4_setText_58 : decode cX4_setText 58 = .ok (.aload_n 0, 1) := kq.at kqdX4_setText_41 8 rfl
theorem dX4_setText_59 : decode cX4_setText 59 = .ok (.iload 6, 2) := kq.at kqdX4_setText_41 9 rfl
theorem dX4_setText_61 : decode cX4_setText 61 = .ok (.aload_n 0, 1) := kq.at kqdX4_setText_41 10 rfl
theorem dX4_setText_62 : decode cX4_setText 62 = .ok (.getfield 43, 3) := kq.at kqdX4_setText_41 11 rfl
theorem dX4_setText_65 : decode cX4_setText 65 = .ok (.iload_n 2, 1) := kq.at kqdX4_setText_41 12 rfl
theorem dX4_setText_66 : decode cX4_setText 66 = .ok (.iaload, 1) := kq.at kqdX4_setText_41 13 rfl
theorem dX4_setText_67 : decode cX4_setText 67 = .ok (.aload_n 1, 1) := kq.at kqdX4_setText_41 14 rfl
theorem dX4_setText_68 : decode cX4_setText 68 = .ok (.invokevirtual 109, 3) := kq.at kqdX4_setText_41 15 rfl
theorem dX4_setText_71 : decode cX4_setText 71 = .ok (.ifCond .ne 5, 3) := kq.at kqdX4_setText_41 16 rfl
theorem dX4_setText_74 : decode cX4_setText 74 = .ok (.iconst 0, 1) := kq.at kqdX4_setText_41 17 rfl
theorem dX4_setText_75 : decode cX4_setText 75 = .ok (.ireturn, 1) := kq.at kqdX4_setText_41 18 rfl
theorem dX4_setText_76 : decode cX4_setText 76 = .ok (.aload_n 0, 1) := kq.at kqdX4_setText_41 19 rfl
theorem dX4_setText_77 : decode cX4_setText 77 = .ok (.getfield 40, 3) := kq.at kqdX4_setText_41 20 rfl
theorem dX4_setText_80 : decode cX4_setText 80 = .ok (.iload_n 2, 1) := kq.at kqdX4_setText_41 21 rfl
theorem dX4_setText_81 : decode cX4_setText 81 = .ok (.dup2, 1) := kq.at kqdX4_setText_41 22 rfl
theorem dX4_setText_82 : decode cX4_setText 82 = .ok (.iaload, 1) := kq.at kqdX4_setText_41 23 rfl
theorem kqdX4_setText_83 : kq cX4_setText [(83, .aload_n 1, 1), (84, .getfield 80, 3), (87, .iload 6, 2), (89, .iaload, 1), (90, .iadd, 1), (91, .iastore, 1), (92, .aload_n 0, 1), (93, .getfield 43, 3), (96, .iload_n 2, 1), (97, .dup2, 1), (98, .iaload, 1), (99, .aload_n 1, 1), (100, .getfield 56, 3), (103, .iload 6, 2), (105, .iaload, 1), (106, .iadd, 1), (107, .iastore, 1), (108, .iinc 5 1, 3), (111, .goto (-95), 3), (114, .iconst 1, 1), (115, .ireturn, 1)] = true := by decide +kernel
theorem dX4_setText_83 : decode cX4_setText 83 = .ok (.aload_n 1, 1) := kq.at kqdX4_setText_83 0 rfl
theorem dX4_setText_84 : decode cX4_setText 84 = .ok (.getfield 80, 3) := kq.at kqdX4_setText_83 1 rfl
theorem dX4_setText_87 : decode cX4_setText 87 = .ok (.iload 6, 2) := kq.at kqdX4_setText_83 2 rfl
theorem dX4_setText_89 : decode cX4_setText 89 = .ok (.iaload, 1) := kq.at kqdX4_setText_83 3 rfl
theorem dX4_setText_90 : decode cX4_setText 90 = .ok (.iadd, 1) := kq.at kqdX4_setText_83 4 rfl
theorem dX4_setText_91 : decode cX4_setText 91 = .ok (.iastore, 1) := kq.at kqdX4_setText_83 5 rfl
theorem dX4_setText_92 : decode cX4_setText 92 = .ok (.aload_n 0, 1) := kq.at kqdX4_setText_83 6 rfl
theorem dX4_setText_93 : decode cX4_setText 93 = .ok (.getfield 43, 3) := kq.at kqdX4_setText_83 7 rfl
theorem dX4_setText_96 : decode cX4_setText 96 = .ok (.iload_n 2, 1) := kq.at kqdX4_setText_83 8 rfl
theorem dX4_setText_97 : decode cX4_setText 97 = .ok (.dup2, 1) := kq.at kqdX4_setText_83 9 rfl
theorem dX4_setText_98 : decode cX4_setText 98 = .ok (.iaload, 1) := kq.at kqdX4_setText_83 10 rfl
theorem dX4_setText_99 : decode cX4_setText 99 = .ok (.aload_n 1, 1) := kq.at kqdX4_setText_83 11 rfl
theorem dX4_setText_100 : decode cX4_setText 100 = .ok (.getfield 56, 3) := kq.at kqdX4_setText_83 12 rfl
theorem dX4_setText_103 : decode cX4_setText 103 = .ok (.iload 6, 2) := kq.at kqdX4_setText_83 13 rfl
theorem dX4_setText_105 : decode cX4_setText 105 = .ok (.iaload, 1) := kq.at kqdX4_setText_83 14 rfl
theorem dX4_setText_106 : decode cX4_setText 106 = .ok (.iadd, 1) := kq.at kqdX4_setText_83 15 rfl
theorem dX4_setText_107 : decode cX4_setText 107 = .ok (.iastore, 1) := kq.at kqdX4_setText_83 16 rfl
theorem dX4_setText_108 : decode cX4_setText 108 = .ok (.iinc 5 1, 3) := kq.at kqdX4_setText_83 17 rfl
theorem dX4_setText_111 : decode cX4_setText 111 = .ok (.goto (-95), 3) := kq.at kqdX4_setText_83 18 rfl
theorem dX4_setText_114 : decode cX4_setText 114 = .ok (.iconst 1, 1) := kq.at kqdX4_setText_83 19 rfl
theorem dX4_setText_115 : decode cX4_setText 115 = .ok (.ireturn, 1) := kq.at kqdX4_setText_83 20 rfl
theorem kqdX4_giveRow_0 : kq cX4_giveRow [(0, .iload_n 2, 1), (1, .aload_n 3, 1), (2, .getfield 56, 3), (5, .iload_n 1, 1), (6, .iaload, 1), (7, .iadd, 1), (8, .aload_n 0, 1), (9, .getfield 28, 3), (12, .if_icmp .le 5, 3), (15, .iconst 0, 1), (16, .ireturn, 1), (17, .iconst 0, 1), (18, .istore 4, 2), (20, .iload 4, 2), (22, .aload_n 3, 1), (23, .getfield 56, 3), (26, .iload_n 1, 1), (27, .iaload, 1), (28, .if_icmp .ge 30, 3), (31, .aload_n 3, 1), (32, .iload_n 1, 1), (33, .iload 4, 2), (35, .invokevirtual 69, 3), (38, .aload_n 0, 1)] = true := by decide +kernel
theorem dX4_giveRow_0 : decode cX4_giveRow 0 = .ok (.iload_n 2, 1) := kq.at kqdX4_giveRow_0 0 rfl
theorem dX4_giveRow_1 : decode cX4_giveRow 1 = .ok (.aload_n 3, 1) := kq.at kqdX4_giveRow_0 1 rfl
theorem dX4_giveRow_2 : decode cX4_giveRow 2 = .ok (.getfield 56, 3) := kq.at kqdX4_giveRow_0 2 rfl
theorem dX4_giveRow_5 : decode cX4_giveRow 5 = .ok (.iload_n 1, 1) := kq.at kqdX4_giveRow_0 3 rfl
theorem dX4_giveRow_6 : decode cX4_giveRow 6 = .ok (.iaload, 1) := kq.at kqdX4_giveRow_0 4 rfl
theorem dX4_giveRow_7 : decode cX4_giveRow 7 = .ok (.iadd, 1) := kq.at kqdX4_giveRow_0 5 rfl
theorem dX4_giveRow_8 : decode cX4_giveRow 8 = .ok (.aload_n 0, 1) := kq.at kqdX4_giveRow_0 6 rfl
theorem dX4_giveRow_9 : decode cX4_giveRow 9 = .ok (.getfield 28, 3) := kq.at kqdX4_giveRow_0 7 rfl
theorem dX4_giveRow_12 : decode cX4_giveRow 12 = .ok (.if_icmp .le 5, 3) := kq.at kqdX4_giveRow_0 8 rfl
theorem dX4_giveRow_15 : decode cX4_giveRow 15 = .ok (.iconst 0, 1) := kq.at kqdX4_giveRow_0 9 rfl
theorem dX4_giveRow_16 : decode cX4_giveRow 16 = .ok (.ireturn, 1) := kq.at kqdX4_giveRow_0 10 rfl
theorem dX4_giveRow_17 : decode cX4_giveRow 17 = .ok (.iconst 0, 1) := kq.at kqdX4_giveRow_0 11 rfl
theorem dX4_giveRow_18 : decode cX4_giveRow 18 = .ok (.istore 4, 2) := kq.at kqdX4_giveRow_0 12 rfl
theorem dX4_giveRow_20 : decode cX4_giveRow 20 = .ok (.iload 4, 2) := kq.at kqdX4_giveRow_0 13 rfl
theorem dX4_giveRow_22 : decode cX4_giveRow 22 = .ok (.aload_n 3, 1) := kq.at kqdX4_giveRow_0 14 rfl
theorem dX4_giveRow_23 : decode cX4_giveRow 23 = .ok (.getfield 56, 3) := kq.at kqdX4_giveRow_0 15 rfl
theorem dX4_giveRow_26 : decode cX4_giveRow 26 = .ok (.iload_n 1, 1) := kq.at kqdX4_giveRow_0 16 rfl
theorem dX4_giveRow_27 : decode cX4_giveRow 27 = .ok (.iaload, 1) := kq.at kqdX4_giveRow_0 17 rfl
theorem dX4_giveRow_28 : decode cX4_giveRow 28 = .ok (.if_icmp .ge 30, 3) := kq.at kqdX4_giveRow_0 18 rfl
theorem dX4_giveRow_31 : decode cX4_giveRow 31 = .ok (.aload_n 3, 1) := kq.at kqdX4_giveRow_0 19 rfl
theorem dX4_giveRow_32 : decode cX4_giveRow 32 = .ok (.iload_n 1, 1) := kq.at kqdX4_giveRow_0 20 rfl
theorem dX4_giveRow_33 : decode cX4_giveRow 33 = .ok (.iload 4, 2) := kq.at kqdX4_giveRow_0 21 rfl
theorem dX4_giveRow_35 : decode cX4_giveRow 35 = .ok (.invokevirtual 69, 3) := kq.at kqdX4_giveRow_0 22 rfl
theorem dX4_giveRow_38 : decode cX4_giveRow 38 = .ok (.aload_n 0, 1) := kq.at kqdX4_giveRow_0 23 rfl
theorem kqdX4_giveRow_39 : kq cX4_giveRow [(39, .getfield 22, 3), (42, .iload_n 2, 1), (43, .iload 4, 2), (45, .iadd, 1), (46, .iaload, 1), (47, .if_icmp .eq 5, 3), (50, .iconst 0, 1), (51, .ireturn, 1), (52, .iinc 4 1, 3), (55, .goto (-35), 3), (58, .iconst 1, 1), (59, .ireturn, 1)] = true := by decide +kernel
theorem dX4_giveRow_39 : decode cX4_giveRow 39 = .ok (.getfield 22, 3) := kq.at kqdX4_giveRow_39 0 rfl
theorem dX4_giveRow_42 : decode cX4_giveRow 42 = .ok (.iload_n 2, 1) := kq.at kqdX4_giveRow_39 1 rfl
theorem dX4_giveRow_43 : decode cX4_giveRow 43 = .ok (.iload 4, 2) := kq.at kqdX4_giveRow_39 2 rfl
theorem dX4_giveRow_45 : decode cX4_giveRow 45 = .ok (.iadd, 1) := kq.at kqdX4_giveRow_39 3 rfl
theorem dX4_giveRow_46 : decode cX4_giveRow 46 = .ok (.iaload, 1) := kq.at kqdX4_giveRow_39 4 rfl
theorem dX4_giveRow_47 : decode cX4_giveRow 47 = .ok (.if_icmp .eq 5, 3) := kq.at kqdX4_giveRow_39 5 rfl
theorem dX4_giveRow_50 : decode cX4_giveRow 50 = .ok (.iconst 0, 1) := kq.at kqdX4_giveRow_39 6 rfl
theorem dX4_giveRow_51 : decode cX4_giveRow 51 = .ok (.ireturn, 1) := kq.at kqdX4_giveRow_39 7 rfl
theorem dX4_giveRow_52 : decode cX4_giveRow 52 = .ok (.iinc 4 1, 3) := kq.at kqdX4_giveRow_39 8 rfl
theorem dX4_giveRow_55 : decode cX4_giveRow 55 = .ok (.goto (-35), 3) := kq.at kqdX4_giveRow_39 9 rfl
theorem dX4_giveRow_58 : decode cX4_giveRow 58 = .ok (.iconst 1, 1) := kq.at kqdX4_giveRow_39 10 rfl
theorem dX4_giveRow_59 : decode cX4_giveRow 59 = .ok (.ireturn, 1) := kq.at kqdX4_giveRow_39 11 rfl
theorem kqdX5_init_0 : kq cX5_init [(0, .aload_n 0, 1), (1, .invokespecial 3, 3), (4, .aload_n 0, 1), (5, .sipush 300, 3), (8, .newarray .int, 2), (10, .putfield 9, 3), (13, .aload_n 0, 1), (14, .iconst (-1), 1), (15, .putfield 15, 3), (18, .aload_n 0, 1), (19, .sipush 301, 3), (22, .newarray .int, 2), (24, .putfield 19, 3), (27, .return_, 1)] = true := by decide +kernel
theorem dX5_init_0 : decode cX5_init 0 = .ok (.aload_n 0, 1) := kq.at kqdX5_init_0 0 rfl
theorem dX5_init_1 : decode cX5_init 1 = .ok (.invokespecial 3, 3) := kq.at kqdX5_init_0 1 rfl
theorem dX5_init_4 : decode cX5_init 4 = .ok (.aload_n 0, 1) := kq.at kqdX5_init_0 2 rfl
theorem dX5_init_5 : decode cX5_init 5 = .ok (.sipush 300, 3) := kq.at kqdX5_init_0 3 rfl
theorem dX5_init_8 : decode cX5_init 8 = .ok (.newarray .int, 2) := kq.at kqdX5_init_0 4 rfl
theorem dX5_init_10 : decode cX5_init 10 = .ok (.putfield 9, 3) := kq.at kqdX5_init_0 5 rfl
theorem dX5_init_13 : decode cX5_init 13 = .ok (.aload_n 0, 1) := kq.at kqdX5_init_0 6 rfl
theorem dX5_init_14 : decode cX5_init 14 = .ok (.iconst (-1), 1) := kq.at kqdX5_init_0 7 rfl
theorem dX5_init_15 : decode cX5_init 15 = .ok (.putfield 15, 3) := kq.at kqdX5_init_0 8 rfl
theorem dX5_init_18 : decode cX5_init 18 = .ok (.aload_n 0, 1) := kq.at kqdX5_init_0 9 rfl
theorem dX5_init_19 : decode cX5_init 19 = .ok (.sipush 301, 3) := kq.at kqdX5_init_0 10 rfl
theorem dX5_init_22 : decode cX5_init 22 = .ok (.newarray .int, 2) := kq.at kqdX5_init_0 11 rfl
theorem dX5_init_24 : decode cX5_init 24 = .ok (.putfield 19, 3) := kq.at kqdX5_init_0 12 rfl
theorem dX5_init_27 : decode cX5_init 27 = .ok (.return_, 1) := kq.at kqdX5_init_0 13 rfl
theorem kqdX5_isThere_0 : kq cX5_isThere [(0, .aload_n 0, 1), (1, .getfield 15, 3), (4, .iconst (-1), 1), (5, .if_icmp .eq 7, 3), (8, .iconst 1, 1), (9, .goto 4, 3), (12, .iconst 0, 1), (13, .ireturn, 1)] = true := by decide +kernel
theorem dX5_isThere_0 : decode cX5_isThere 0 = .ok (.aload_n 0, 1) := kq.at kqdX5_isThere_0 0 rfl
theorem dX5_isThere_1 : decode cX5_isThere 1 = .ok (.getfield 15, 3) := kq.at kqdX5_isThere_0 1 rfl
theorem dX5_isThere_4 : decode cX5_isThere 4 = .ok (.iconst (-1), 1) := kq.at kqdX5_isThere_0 2 rfl
theorem dX5_isThere_5 : decode cX5_isThere 5 = .ok (.if_icmp .eq 7, 3) := kq.at kqdX5_isThere_0 3 rfl
theorem dX5_isThere_8 : decode cX5_isThere 8 = .ok (.iconst 1, 1) := kq.at kqdX5_isThere_0 4 rfl
theorem dX5_isThere_9 : decode cX5_isThere 9 = .ok (.goto 4, 3) := kq.at kqdX5_isThere_0 5 rfl
theorem dX5_isThere_12 : decode cX5_isThere 12 = .ok (.iconst 0, 1) := kq.at kqdX5_isThere_0 6 rfl
theorem dX5_isThere_13 : decode cX5_isThere 13 = .ok (.ireturn, 1) := kq.at kqdX5_isThere_0 7 rfl
theorem kqdX5_take_0 : kq cX5_take [(0, .aload_n 0, 1), (1, .iload_n 2, 1), (2, .sipush 300, 3), (5, .invokestatic 22, 3), (8, .putfield 15, 3), (11, .aload_n 0, 1), (12, .getfield 15, 3), (15, .ifCond .le 17, 3), (18, .aload_n 1, 1), (19, .iconst 0, 1), (20, .aload_n 0, 1), (21, .getfield 9, 3), (24, .iconst 0, 1), (25, .aload_n 0, 1), (26, .getfield 15, 3), (29, .invokestatic 28, 3), (32, .return_, 1)] = true := by decide +kernel
theorem dX5_take_0 : decode cX5_take 0 = .ok (.aload_n 0, 1) := kq.at kqdX5_take_0 0 rfl
theorem dX5_take_1 : decode cX5_take 1 = .ok (.iload_n 2, 1) := kq.at kqdX5_take_0 1 rfl
theorem dX5_take_2 : decode cX5_take 2 = .ok (.sipush 300, 3) := kq.at kqdX5_take_0 2 rfl
theorem dX5_take_5 : decode cX5_take 5 = .ok (.invokestatic 22, 3) := kq.at kqdX5_take_0 3 rfl
theorem dX5_take_8 : decode cX5_take 8 = .ok (.putfield 15, 3) := kq.at kqdX5_take_0 4 rfl
theorem dX5_take_11 : decode cX5_take 11 = .ok (.aload_n 0, 1) := kq.at kqdX5_take_0 5 rfl
theorem dX5_take_12 : decode cX5_take 12 = .ok (.getfield 15, 3) := kq.at kqdX5_take_0 6 rfl
theorem dX5_take_15 : decode cX5_take 15 = .ok (.ifCond .le 17, 3) := kq.at kqdX5_take_0 7 rfl
theorem dX5_take_18 : decode cX5_take 18 = .ok (.aload_n 1, 1) := kq.at kqdX5_take_0 8 rfl
theorem dX5_take_19 : decode cX5_take 19 = .ok (.iconst 0, 1) := kq.at kqdX5_take_0 9 rfl
theorem dX5_take_20 : decode cX5_take 20 = .ok (.aload_n 0, 1) := kq.at kqdX5_take_0 10 rfl
theorem dX5_take_21 : decode cX5_take 21 = .ok (.getfield 9, 3) := kq.at kqdX5_take_0 11 rfl
theorem dX5_take_24 : decode cX5_take 24 = .ok (.iconst 0, 1) := kq.at kqdX5_take_0 12 rfl
theorem dX5_take_25 : decode cX5_take 25 = .ok (.aload_n 0, 1) := kq.at kqdX5_take_0 13 rfl
theorem dX5_take_26 : decode cX5_take 26 = .ok (.getfield 15, 3) := kq.at kqdX5_take_0 14 rfl
theorem dX5_take_29 : decode cX5_take 29 = .ok (.invokestatic 28, 3) := kq.at kqdX5_take_0 15 rfl
theorem dX5_take_32 : decode cX5_take 32 = .ok (.return_, 1) := kq.at kqdX5_take_0 16 rfl
theorem kqdX5_greatLetters_0 : kq cX5_greatLetters [(0, .iconst 0, 1), (1, .istore_n 1, 1), (2, .iconst 0, 1), (3, .istore_n 2, 1), (4, .iload_n 2, 1), (5, .aload_n 0, 1), (6, .getfield 15, 3), (9, .if_icmp .ge 24, 3), (12, .aload_n 0, 1), (13, .getfield 9, 3), (16, .iload_n 2, 1), (17, .iaload, 1), (18, .invokestatic 34, 3), (21, .ifCond .eq 6, 3), (24, .iinc 1 1, 3), (27, .iinc 2 1, 3), (30, .goto (-26), 3), (33, .iload_n 1, 1), (34, .ireturn, 1)] = true := by decide +kernel
theorem dX5_greatLetters_0 : decode cX5_greatLetters 0 = .ok (.iconst 0, 1) := kq.at kqdX5_greatLetters_0 0 rfl
theorem dX5_greatLetters_1 : decode cX5_greatLetters 1 = .ok (.istore_n 1, 1) := kq.at kqdX5_greatLetters_0 1 rfl
theorem dX5_greatLetters_2 : decode cX5_greatLetters 2 = .ok (.iconst 0, 1) := kq.at kqdX5_greatLetters_0 2 rfl
theorem dX5_greatLetters_3 : decode cX5_greatLetters 3 = .ok (.istore_n 2, 1) := kq.at kqdX5_greatLetters_0 3 rfl
theorem dX5_greatLetters_4 : decode cX5_greatLetters 4 = .ok (.iload_n 2, 1) := kq.at kqdX5_greatLetters_0 4 rfl
theorem dX5_greatLetters_5 : decode cX5_greatLetters 5 = .ok (.aload_n 0, 1) := kq.at kqdX5_greatLetters_0 5 rfl
theorem dX5_greatLetters_6 : decode cX5_greatLetters 6 = .ok (.getfield 15, 3) := kq.at kqdX5_greatLetters_0 6 rfl
theorem dX5_greatLetters_9 : decode cX5_greatLetters 9 = .ok (.if_icmp .ge 24, 3) := kq.at kqdX5_greatLetters_0 7 rfl
theorem dX5_greatLetters_12 : decode cX5_greatLetters 12 = .ok (.aload_n 0, 1) := kq.at kqdX5_greatLetters_0 8 rfl
theorem dX5_greatLetters_13 : decode cX5_greatLetters 13 = .ok (.getfield 9, 3) := kq.at kqdX5_greatLetters_0 9 rfl
theorem dX5_greatLetters_16 : decode cX5_greatLetters 16 = .ok (.iload_n 2, 1) := kq.at kqdX5_greatLetters_0 10 rfl
theorem dX5_greatLetters_17 : decode cX5_greatLetters 17 = .ok (.iaload, 1) := kq.at kqdX5_greatLetters_0 11 rfl
theorem dX5_greatLetters_18 : decode cX5_greatLetters 18 = .ok (.invokestatic 34, 3) := kq.at kqdX5_greatLetters_0 12 rfl
theorem dX5_greatLetters_21 : decode cX5_greatLetters 21 = .ok (.ifCond .eq 6, 3) := kq.at kqdX5_greatLetters_0 13 rfl
theorem dX5_greatLetters_24 : decode cX5_greatLetters 24 = .ok (.iinc 1 1, 3) := kq.at kqdX5_greatLetters_0 14 rfl
theorem dX5_greatLetters_27 : decode cX5_greatLetters 27 = .ok (.iinc 2 1, 3) := kq.at kqdX5_greatLetters_0 15 rfl
theorem dX5_greatLetters_30 : decode cX5_greatLetters 30 = .ok (.goto (-26), 3) := kq.at kqdX5_greatLetters_0 16 rfl
theorem dX5_greatLetters_33 : decode cX5_greatLetters 33 = .ok (.iload_n 1, 1) := kq.at kqdX5_greatLetters_0 17 rfl
theorem dX5_greatLetters_34 : decode cX5_greatLetters 34 = .ok (.ireturn, 1) := kq.at kqdX5_greatLetters_0 18 rfl
theorem kqdX5_beginsFigure_0 : kq cX5_beginsFigure [(0, .aload_n 0, 1), (1, .getfield 9, 3), (4, .iload_n 1, 1), (5, .iaload, 1), (6, .invokestatic 38, 3), (9, .ifCond .eq 25, 3), (12, .iload_n 1, 1), (13, .ifCond .eq 17, 3), (16, .aload_n 0, 1), (17, .getfield 9, 3), (20, .iload_n 1, 1), (21, .iconst 1, 1), (22, .isub, 1), (23, .iaload, 1), (24, .invokestatic 38, 3), (27, .ifCond .ne 7, 3), (30, .iconst 1, 1), (31, .goto 4, 3), (34, .iconst 0, 1), (35, .ireturn, 1)] = true := by decide +kernel
theorem dX5_beginsFigure_0 : decode cX5_beginsFigure 0 = .ok (.aload_n 0, 1) := kq.at kqdX5_beginsFigure_0 0 rfl
theorem dX5_beginsFigure_1 : decode cX5_beginsFigure 1 = .ok (.getfield 9, 3) := kq.at kqdX5_beginsFigure_0 1 rfl
theorem dX5_beginsFigure_4 : decode cX5_beginsFigure 4 = .ok (.iload_n 1, 1) := kq.at kqdX5_beginsFigure_0 2 rfl
theorem dX5_beginsFigure_5 : decode cX5_beginsFigure 5 = .ok (.iaload, 1) := kq.at kqdX5_beginsFigure_0 3 rfl
theorem dX5_beginsFigure_6 : decode cX5_beginsFigure 6 = .ok (.invokestatic 38, 3) := kq.at kqdX5_beginsFigure_0 4 rfl
theorem dX5_beginsFigure_9 : decode cX5_beginsFigure 9 = .ok (.ifCond .eq 25, 3) := kq.at kqdX5_beginsFigure_0 5 rfl
theorem dX5_beginsFigure_12 : decode cX5_beginsFigure 12 = .ok (.iload_n 1, 1) := kq.at kqdX5_beginsFigure_0 6 rfl
theorem dX5_beginsFigure_13 : decode cX5_beginsFigure 13 = .ok (.ifCond .eq 17, 3) := kq.at kqdX5_beginsFigure_0 7 rfl
theorem dX5_beginsFigure_16 : decode cX5_beginsFigure 16 = .ok (.aload_n 0, 1) := kq.at kqdX5_beginsFigure_0 8 rfl
theorem dX5_beginsFigure_17 : decode cX5_beginsFigure 17 = .ok (.getfield 9, 3) := kq.at kqdX5_beginsFigure_0 9 rfl
theorem dX5_beginsFigure_20 : decode cX5_beginsFigure 20 = .ok (.iload_n 1, 1) := kq.at kqdX5_beginsFigure_0 10 rfl
theorem dX5_beginsFigure_21 : decode cX5_beginsFigure 21 = .ok (.iconst 1, 1) := kq.at kqdX5_beginsFigure_0 11 rfl
theorem dX5_beginsFigure_22 : decode cX5_beginsFigure 22 = .ok (.isub, 1) := kq.at kqdX5_beginsFigure_0 12 rfl
theorem dX5_beginsFigure_23 : decode cX5_beginsFigure 23 = .ok (.iaload, 1) := kq.at kqdX5_beginsFigure_0 13 rfl
theorem dX5_beginsFigure_24 : decode cX5_beginsFigure 24 = .ok (.invokestatic 38, 3) := kq.at kqdX5_beginsFigure_0 14 rfl
theorem dX5_beginsFigure_27 : decode cX5_beginsFigure 27 = .ok (.ifCond .ne 7, 3) := kq.at kqdX5_beginsFigure_0 15 rfl
theorem dX5_beginsFigure_30 : decode cX5_beginsFigure 30 = .ok (.iconst 1, 1) := kq.at kqdX5_beginsFigure_0 16 rfl
theorem dX5_beginsFigure_31 : decode cX5_beginsFigure 31 = .ok (.goto 4, 3) := kq.at kqdX5_beginsFigure_0 17 rfl
theorem dX5_beginsFigure_34 : decode cX5_beginsFigure 34 = .ok (.iconst 0, 1) := kq.at kqdX5_beginsFigure_0 18 rfl
theorem dX5_beginsFigure_35 : decode cX5_beginsFigure 35 = .ok (.ireturn, 1) := kq.at kqdX5_beginsFigure_0 19 rfl
theorem kqdX5_beginsWord_0 : kq cX5_beginsWord [(0, .aload_n 0, 1), (1, .getfield 9, 3), (4, .iload_n 1, 1), (5, .iaload, 1), (6, .invokestatic 41, 3), (9, .ifCond .eq 25, 3), (12, .iload_n 1, 1), (13, .ifCond .eq 17, 3), (16, .aload_n 0, 1), (17, .getfield 9, 3), (20, .iload_n 1, 1), (21, .iconst 1, 1), (22, .isub, 1), (23, .iaload, 1), (24, .invokestatic 41, 3), (27, .ifCond .ne 7, 3), (30, .iconst 1, 1), (31, .goto 4, 3), (34, .iconst 0, 1), (35, .ireturn, 1)] = true := by decide +kernel
theorem dX5_beginsWord_0 : decode cX5_beginsWord 0 = .ok (.aload_n 0, 1) := kq.at kqdX5_beginsWord_0 0 rfl
theorem dX5_beginsWord_1 : decode cX5_beginsWord 1 = .ok (.getfield 9, 3) := kq.at kqdX5_beginsWord_0 1 rfl
theorem dX5_beginsWord_4 : decode cX5_beginsWord 4 = .ok (.iload_n 1, 1) := kq.at kqdX5_beginsWord_0 2 rfl
theorem dX5_beginsWord_5 : decode cX5_beginsWord 5 = .ok (.iaload, 1) := kq.at kqdX5_beginsWord_0 3 rfl
theorem dX5_beginsWord_6 : decode cX5_beginsWord 6 = .ok (.invokestatic 41, 3) := kq.at kqdX5_beginsWord_0 4 rfl
theorem dX5_beginsWord_9 : decode cX5_beginsWord 9 = .ok (.ifCond .eq 25, 3) := kq.at kqdX5_beginsWord_0 5 rfl
theorem dX5_beginsWord_12 : decode cX5_beginsWord 12 = .ok (.iload_n 1, 1) := kq.at kqdX5_beginsWord_0 6 rfl
theorem dX5_beginsWord_13 : decode cX5_beginsWord 13 = .ok (.ifCond .eq 17, 3) := kq.at kqdX5_beginsWord_0 7 rfl
theorem dX5_beginsWord_16 : decode cX5_beginsWord 16 = .ok (.aload_n 0, 1) := kq.at kqdX5_beginsWord_0 8 rfl
theorem dX5_beginsWord_17 : decode cX5_beginsWord 17 = .ok (.getfield 9, 3) := kq.at kqdX5_beginsWord_0 9 rfl
theorem dX5_beginsWord_20 : decode cX5_beginsWord 20 = .ok (.iload_n 1, 1) := kq.at kqdX5_beginsWord_0 10 rfl
theorem dX5_beginsWord_21 : decode cX5_beginsWord 21 = .ok (.iconst 1, 1) := kq.at kqdX5_beginsWord_0 11 rfl
theorem dX5_beginsWord_22 : decode cX5_beginsWord 22 = .ok (.isub, 1) := kq.at kqdX5_beginsWord_0 12 rfl
theorem dX5_beginsWord_23 : decode cX5_beginsWord 23 = .ok (.iaload, 1) := kq.at kqdX5_beginsWord_0 13 rfl
theorem dX5_beginsWord_24 : decode cX5_beginsWord 24 = .ok (.invokestatic 41, 3) := kq.at kqdX5_beginsWord_0 14 rfl
theorem dX5_beginsWord_27 : decode cX5_beginsWord 27 = .ok (.ifCond .ne 7, 3) := kq.at kqdX5_beginsWord_0 15 rfl
theorem dX5_beginsWord_30 : decode cX5_beginsWord 30 = .ok (.iconst 1, 1) := kq.at kqdX5_beginsWord_0 16 rfl
theorem dX5_beginsWord_31 : decode cX5_beginsWord 31 = .ok (.goto 4, 3) := kq.at kqdX5_beginsWord_0 17 rfl
theorem dX5_beginsWord_34 : decode cX5_beginsWord 34 = .ok (.iconst 0, 1) := kq.at kqdX5_beginsWord_0 18 rfl
theorem dX5_beginsWord_35 : decode cX5_beginsWord 35 = .ok (.ireturn, 1) := kq.at kqdX5_beginsWord_0 19 rfl
theorem kqdX5_figures_0 : kq cX5_figures [(0, .iconst 0, 1), (1, .istore_n 1, 1), (2, .iconst 0, 1), (3, .istore_n 2, 1), (4, .iload_n 2, 1), (5, .aload_n 0, 1), (6, .getfield 15, 3), (9, .if_icmp .ge 20, 3), (12, .aload_n 0, 1), (13, .iload_n 2, 1), (14, .invokevirtual 44, 3), (17, .ifCond .eq 6, 3), (20, .iinc 1 1, 3), (23, .iinc 2 1, 3), (26, .goto (-22), 3), (29, .iload_n 1, 1), (30, .ireturn, 1)] = true := by decide +kernel
theorem dX5_figures_0 : decode cX5_figures 0 = .ok (.iconst 0, 1) := kq.at kqdX5_figures_0 0 rfl
theorem dX5_figures_1 : decode cX5_figures 1 = .ok (.istore_n 1, 1) := kq.at kqdX5_figures_0 1 rfl
theorem dX5_figures_2 : decode cX5_figures 2 = .ok (.iconst 0, 1) := kq.at kqdX5_figures_0 2 rfl
theorem dX5_figures_3 : decode cX5_figures 3 = .ok (.istore_n 2, 1) := kq.at kqdX5_figures_0 3 rfl
theorem dX5_figures_4 : decode cX5_figures 4 = .ok (.iload_n 2, 1) := kq.at kqdX5_figures_0 4 rfl
theorem dX5_figures_5 : decode cX5_figures 5 = .ok (.aload_n 0, 1) := kq.at kqdX5_figures_0 5 rfl
theorem dX5_figures_6 : decode cX5_figures 6 = .ok (.getfield 15, 3) := kq.at kqdX5_figures_0 6 rfl
theorem dX5_figures_9 : decode cX5_figures 9 = .ok (.if_icmp .ge 20, 3) := kq.at kqdX5_figures_0 7 rfl
theorem dX5_figures_12 : decode cX5_figures 12 = .ok (.aload_n 0, 1) := kq.at kqdX5_figures_0 8 rfl
theorem dX5_figures_13 : decode cX5_figures 13 = .ok (.iload_n 2, 1) := kq.at kqdX5_figures_0 9 rfl
theorem dX5_figures_14 : decode cX5_figures 14 = .ok (.invokevirtual 44, 3) := kq.at kqdX5_figures_0 10 rfl
theorem dX5_figures_17 : decode cX5_figures 17 = .ok (.ifCond .eq 6, 3) := kq.at kqdX5_figures_0 11 rfl
theorem dX5_figures_20 : decode cX5_figures 20 = .ok (.iinc 1 1, 3) := kq.at kqdX5_figures_0 12 rfl
theorem dX5_figures_23 : decode cX5_figures 23 = .ok (.iinc 2 1, 3) := kq.at kqdX5_figures_0 13 rfl
theorem dX5_figures_26 : decode cX5_figures 26 = .ok (.goto (-22), 3) := kq.at kqdX5_figures_0 14 rfl
theorem dX5_figures_29 : decode cX5_figures 29 = .ok (.iload_n 1, 1) := kq.at kqdX5_figures_0 15 rfl
theorem dX5_figures_30 : decode cX5_figures 30 = .ok (.ireturn, 1) := kq.at kqdX5_figures_0 16 rfl
theorem kqdX5_mostOftenLetter_0 : kq cX5_mostOftenLetter [(0, .iconst 1, 1), (1, .istore_n 1, 1), (2, .iload_n 1, 1), (3, .bipush 26, 2), (5, .if_icmp .gt 16, 3), (8, .aload_n 0, 1), (9, .getfield 19, 3), (12, .iload_n 1, 1), (13, .iconst 0, 1), (14, .iastore, 1), (15, .iinc 1 1, 3), (18, .goto (-16), 3), (21, .iconst 0, 1), (22, .istore_n 1, 1), (23, .iload_n 1, 1), (24, .aload_n 0, 1), (25, .getfield 15, 3), (28, .if_icmp .ge 39, 3), (31, .aload_n 0, 1), (32, .getfield 9, 3), (35, .iload_n 1, 1), (36, .iaload, 1), (37, .invokestatic 41, 3), (40, .ifCond .eq 21, 3)] = true := by decide +kernel
theorem dX5_mostOftenLetter_0 : decode cX5_mostOftenLetter 0 = .ok (.iconst 1, 1) := kq.at kqdX5_mostOftenLetter_0 0 rfl
theorem dX5_mostOftenLetter_1 : decode cX5_mostOftenLetter 1 = .ok (.istore_n 1, 1) := kq.at kqdX5_mostOftenLetter_0 1 rfl
theorem dX5_mostOftenLetter_2 : decode cX5_mostOftenLetter 2 = .ok (.iload_n 1, 1) := kq.at kqdX5_mostOftenLetter_0 2 rfl
theorem dX5_mostOftenLetter_3 : decode cX5_mostOftenLetter 3 = .ok (.bipush 26, 2) := kq.at kqdX5_mostOftenLetter_0 3 rfl
theorem dX5_mostOftenLetter_5 : decode cX5_mostOftenLetter 5 = .ok (.if_icmp .gt 16, 3) := kq.at kqdX5_mostOftenLetter_0 4 rfl
theorem dX5_mostOftenLetter_8 : decode cX5_mostOftenLetter 8 = .ok (.aload_n 0, 1) := kq.at kqdX5_mostOftenLetter_0 5 rfl
theorem dX5_mostOftenLetter_9 : decode cX5_mostOftenLetter 9 = .ok (.getfield 19, 3) := kq.at kqdX5_mostOftenLetter_0 6 rfl
theorem dX5_mostOftenLetter_12 : decode cX5_mostOftenLetter 12 = .ok (.iload_n 1, 1) := kq.at kqdX5_mostOftenLetter_0 7 rfl
theorem dX5_mostOftenLetter_13 : decode cX5_mostOftenLetter 13 = .ok (.iconst 0, 1) := kq.at kqdX5_mostOftenLetter_0 8 rfl
theorem dX5_mostOftenLetter_14 : decode cX5_mostOftenLetter 14 = .ok (.iastore, 1) := kq.at kqdX5_mostOftenLetter_0 9 rfl
theorem dX5_mostOftenLetter_15 : decode cX5_mostOftenLetter 15 = .ok (.iinc 1 1, 3) := kq.at kqdX5_mostOftenLetter_0 10 rfl
theorem dX5_mostOftenLetter_18 : decode cX5_mostOftenLetter 18 = .ok (.goto (-16), 3) := kq.at kqdX5_mostOftenLetter_0 11 rfl
theorem dX5_mostOftenLetter_21 : decode cX5_mostOftenLetter 21 = .ok (.iconst 0, 1) := kq.at kqdX5_mostOftenLetter_0 12 rfl
theorem dX5_mostOftenLetter_22 : decode cX5_mostOftenLetter 22 = .ok (.istore_n 1, 1) := kq.at kqdX5_mostOftenLetter_0 13 rfl
theorem dX5_mostOftenLetter_23 : decode cX5_mostOftenLetter 23 = .ok (.iload_n 1, 1) := kq.at kqdX5_mostOftenLetter_0 14 rfl
theorem dX5_mostOftenLetter_24 : decode cX5_mostOftenLetter 24 = .ok (.aload_n 0, 1) := kq.at kqdX5_mostOftenLetter_0 15 rfl
theorem dX5_mostOftenLetter_25 : decode cX5_mostOftenLetter 25 = .ok (.getfield 15, 3) := kq.at kqdX5_mostOftenLetter_0 16 rfl
theorem dX5_mostOftenLetter_28 : decode cX5_mostOftenLetter 28 = .ok (.if_icmp .ge 39, 3) := kq.at kqdX5_mostOftenLetter_0 17 rfl
theorem dX5_mostOftenLetter_31 : decode cX5_mostOftenLetter 31 = .ok (.aload_n 0, 1) := kq.at kqdX5_mostOftenLetter_0 18 rfl
theorem dX5_mostOftenLetter_32 : decode cX5_mostOftenLetter 32 = .ok (.getfield 9, 3) := kq.at kqdX5_mostOftenLetter_0 19 rfl
theorem dX5_mostOftenLetter_35 : decode cX5_mostOftenLetter 35 = .ok (.iload_n 1, 1) := kq.at kqdX5_mostOftenLetter_0 20 rfl
theorem dX5_mostOftenLetter_36 : decode cX5_mostOftenLetter 36 = .ok (.iaload, 1) := kq.at kqdX5_mostOftenLetter_0 21 rfl
theorem dX5_mostOftenLetter_37 : decode cX5_mostOftenLetter 37 = .ok (.invokestatic 41, 3) := kq.at kqdX5_mostOftenLetter_0 22 rfl
theorem dX5_mostOftenLetter_40 : decode cX5_mostOftenLetter 40 = .ok (.ifCond .eq 21, 3) := kq.at kqdX5_mostOftenLetter_0 23 rfl
theorem kqdX5_mostOftenLetter_43 : kq cX5_mostOftenLetter [(43, .aload_n 0, 1), (44, .getfield 19, 3), (47, .aload_n 0, 1), (48, .getfield 9, 3), (51, .iload_n 1, 1), (52, .iaload, 1), (53, .invokestatic 47, 3), (56, .dup2, 1), (57, .iaload, 1), (58, .iconst 1, 1), (59, .iadd, 1), (60, .iastore, 1), (61, .iinc 1 1, 3), (64, .goto (-41), 3), (67, .iconst 0, 1), (68, .istore_n 1, 1), (69, .iconst 0, 1), (70, .istore_n 2, 1), (71, .iconst 1, 1), (72, .istore_n 3, 1), (73, .iload_n 3, 1), (74, .bipush 26, 2), (76, .if_icmp .gt 28, 3), (79, .aload_n 0, 1)] = true := by decide +kernel
theorem dX5_mostOftenLetter_43 : decode cX5_mostOftenLetter 43 = .ok (.aload_n 0, 1) := kq.at kqdX5_mostOftenLetter_43 0 rfl
theorem dX5_mostOftenLetter_44 : decode cX5_mostOftenLetter 44 = .ok (.getfield 19, 3) := kq.at kqdX5_mostOftenLetter_43 1 rfl
theorem dX5_mostOftenLetter_47 : decode cX5_mostOftenLetter 47 = .ok (.aload_n 0, 1) := kq.at kqdX5_mostOftenLetter_43 2 rfl
theorem dX5_mostOftenLetter_48 : decode cX5_mostOftenLetter 48 = .ok (.getfield 9, 3) := kq.at kqdX5_mostOftenLetter_43 3 rfl
theorem dX5_mostOftenLetter_51 : decode cX5_mostOftenLetter 51 = .ok (.iload_n 1, 1) := kq.at kqdX5_mostOftenLetter_43 4 rfl
theorem dX5_mostOftenLetter_52 : decode cX5_mostOftenLetter 52 = .ok (.iaload, 1) := kq.at kqdX5_mostOftenLetter_43 5 rfl
theorem dX5_mostOftenLetter_53 : decode cX5_mostOftenLetter 53 = .ok (.invokestatic 47, 3) := kq.at kqdX5_mostOftenLetter_43 6 rfl
theorem dX5_mostOftenLetter_56 : decode cX5_mostOftenLetter 56 = .ok (.dup2, 1) := kq.at kqdX5_mostOftenLetter_43 7 rfl
theorem dX5_mostOftenLetter_57 : decode cX5_mostOftenLetter 57 = .ok (.iaload, 1) := kq.at kqdX5_mostOftenLetter_43 8 rfl
theorem dX5_mostOftenLetter_58 : decode cX5_mostOftenLetter 58 = .ok (.iconst 1, 1) := kq.at kqdX5_mostOftenLetter_43 9 rfl
theorem dX5_mostOftenLetter_59 : decode cX5_mostOftenLetter 59 = .ok (.iadd, 1) := kq.at kqdX5_mostOftenLetter_43 10 rfl
theorem dX5_mostOftenLetter_60 : decode cX5_mostOftenLetter 60 = .ok (.iastore, 1) := kq.at kqdX5_mostOftenLetter_43 11 rfl
theorem dX5_mostOftenLetter_61 : decode cX5_mostOftenLetter 61 = .ok (.iinc 1 1, 3) := kq.at kqdX5_mostOftenLetter_43 12 rfl
theorem dX5_mostOftenLetter_64 : decode cX5_mostOftenLetter 64 = .ok (.goto (-41), 3) := kq.at kqdX5_mostOftenLetter_43 13 rfl
theorem dX5_mostOftenLetter_67 : decode cX5_mostOftenLetter 67 = .ok (.iconst 0, 1) := kq.at kqdX5_mostOftenLetter_43 14 rfl
theorem dX5_mostOftenLetter_68 : decode cX5_mostOftenLetter 68 = .ok (.istore_n 1, 1) := kq.at kqdX5_mostOftenLetter_43 15 rfl
theorem dX5_mostOftenLetter_69 : decode cX5_mostOftenLetter 69 = .ok (.iconst 0, 1) := kq.at kqdX5_mostOftenLetter_43 16 rfl
theorem dX5_mostOftenLetter_70 : decode cX5_mostOftenLetter 70 = .ok (.istore_n 2, 1) := kq.at kqdX5_mostOftenLetter_43 17 rfl
theorem dX5_mostOftenLetter_71 : decode cX5_mostOftenLetter 71 = .ok (.iconst 1, 1) := kq.at kqdX5_mostOftenLetter_43 18 rfl
theorem dX5_mostOftenLetter_72 : decode cX5_mostOftenLetter 72 = .ok (.istore_n 3, 1) := kq.at kqdX5_mostOftenLetter_43 19 rfl
theorem dX5_mostOftenLetter_73 : decode cX5_mostOftenLetter 73 = .ok (.iload_n 3, 1) := kq.at kqdX5_mostOftenLetter_43 20 rfl
theorem dX5_mostOftenLetter_74 : decode cX5_mostOftenLetter 74 = .ok (.bipush 26, 2) := kq.at kqdX5_mostOftenLetter_43 21 rfl
theorem dX5_mostOftenLetter_76 : decode cX5_mostOftenLetter 76 = .ok (.if_icmp .gt 28, 3) := kq.at kqdX5_mostOftenLetter_43 22 rfl
theorem dX5_mostOftenLetter_79 : decode cX5_mostOftenLetter 79 = .ok (.aload_n 0, 1) := kq.at kqdX5_mostOftenLetter_43 23 rfl
theorem kqdX5_mostOftenLetter_80 : kq cX5_mostOftenLetter [(80, .getfield 19, 3), (83, .iload_n 3, 1), (84, .iaload, 1), (85, .iload_n 2, 1), (86, .if_icmp .le 12, 3), (89, .iload_n 3, 1), (90, .istore_n 1, 1), (91, .aload_n 0, 1), (92, .getfield 19, 3), (95, .iload_n 3, 1), (96, .iaload, 1), (97, .istore_n 2, 1), (98, .iinc 3 1, 3), (101, .goto (-28), 3), (104, .iload_n 1, 1), (105, .ireturn, 1)] = true := by decide +kernel
theorem dX5_mostOftenLetter_80 : decode cX5_mostOftenLetter 80 = .ok (.getfield 19, 3) := kq.at kqdX5_mostOftenLetter_80 0 rfl
theorem dX5_mostOftenLetter_83 : decode cX5_mostOftenLetter 83 = .ok (.iload_n 3, 1) := kq.at kqdX5_mostOftenLetter_80 1 rfl
theorem dX5_mostOftenLetter_84 : decode cX5_mostOftenLetter 84 = .ok (.iaload, 1) := kq.at kqdX5_mostOftenLetter_80 2 rfl
theorem dX5_mostOftenLetter_85 : decode cX5_mostOftenLetter 85 = .ok (.iload_n 2, 1) := kq.at kqdX5_mostOftenLetter_80 3 rfl
theorem dX5_mostOftenLetter_86 : decode cX5_mostOftenLetter 86 = .ok (.if_icmp .le 12, 3) := kq.at kqdX5_mostOftenLetter_80 4 rfl
theorem dX5_mostOftenLetter_89 : decode cX5_mostOftenLetter 89 = .ok (.iload_n 3, 1) := kq.at kqdX5_mostOftenLetter_80 5 rfl
theorem dX5_mostOftenLetter_90 : decode cX5_mostOftenLetter 90 = .ok (.istore_n 1, 1) := kq.at kqdX5_mostOftenLetter_80 6 rfl
theorem dX5_mostOftenLetter_91 : decode cX5_mostOftenLetter 91 = .ok (.aload_n 0, 1) := kq.at kqdX5_mostOftenLetter_80 7 rfl
theorem dX5_mostOftenLetter_92 : decode cX5_mostOftenLetter 92 = .ok (.getfield 19, 3) := kq.at kqdX5_mostOftenLetter_80 8 rfl
theorem dX5_mostOftenLetter_95 : decode cX5_mostOftenLetter 95 = .ok (.iload_n 3, 1) := kq.at kqdX5_mostOftenLetter_80 9 rfl
theorem dX5_mostOftenLetter_96 : decode cX5_mostOftenLetter 96 = .ok (.iaload, 1) := kq.at kqdX5_mostOftenLetter_80 10 rfl
theorem dX5_mostOftenLetter_97 : decode cX5_mostOftenLetter 97 = .ok (.istore_n 2, 1) := kq.at kqdX5_mostOftenLetter_80 11 rfl
theorem dX5_mostOftenLetter_98 : decode cX5_mostOftenLetter 98 = .ok (.iinc 3 1, 3) := kq.at kqdX5_mostOftenLetter_80 12 rfl
theorem dX5_mostOftenLetter_101 : decode cX5_mostOftenLetter 101 = .ok (.goto (-28), 3) := kq.at kqdX5_mostOftenLetter_80 13 rfl
theorem dX5_mostOftenLetter_104 : decode cX5_mostOftenLetter 104 = .ok (.iload_n 1, 1) := kq.at kqdX5_mostOftenLetter_80 14 rfl
theorem dX5_mostOftenLetter_105 : decode cX5_mostOftenLetter 105 = .ok (.ireturn, 1) := kq.at kqdX5_mostOftenLetter_80 15 rfl
theorem kqdX5_placesOf_0 : kq cX5_placesOf [(0, .iconst 0, 1), (1, .istore_n 3, 1), (2, .iconst 0, 1), (3, .istore 4, 2), (5, .iconst 0, 1), (6, .istore 5, 2), (8, .iconst 0, 1), (9, .istore 6, 2), (11, .iload 6, 2), (13, .aload_n 0, 1), (14, .getfield 15, 3), (17, .if_icmp .ge 65, 3), (20, .aload_n 0, 1), (21, .iload 6, 2), (23, .invokevirtual 51, 3), (26, .ifCond .eq 22, 3), (29, .iload 6, 2), (31, .istore 4, 2), (33, .aload_n 0, 1), (34, .getfield 9, 3), (37, .aload_n 0, 1), (38, .getfield 15, 3), (41, .iload 6, 2), (43, .invokestatic 54, 3)] = true := by decide +kernel
theorem dX5_placesOf_0 : decode cX5_placesOf 0 = .ok (.iconst 0, 1) := kq.at kqdX5_placesOf_0 0 rfl
theorem dX5_placesOf_1 : decode cX5_placesOf 1 = .ok (.istore_n 3, 1) := kq.at kqdX5_placesOf_0 1 rfl
theorem dX5_placesOf_2 : decode cX5_placesOf 2 = .ok (.iconst 0, 1) := kq.at kqdX5_placesOf_0 2 rfl
theorem dX5_placesOf_3 : decode cX5_placesOf 3 = .ok (.istore 4, 2) := kq.at kqdX5_placesOf_0 3 rfl
theorem dX5_placesOf_5 : decode cX5_placesOf 5 = .ok (.iconst 0, 1) := kq.at kqdX5_placesOf_0 4 rfl
theorem dX5_placesOf_6 : decode cX5_placesOf 6 = .ok (.istore 5, 2) := kq.at kqdX5_placesOf_0 5 rfl
theorem dX5_placesOf_8 : decode cX5_placesOf 8 = .ok (.iconst 0, 1) := kq.at kqdX5_placesOf_0 6 rfl
theorem dX5_placesOf_9 : decode cX5_placesOf 9 = .ok (.istore 6, 2) := kq.at kqdX5_placesOf_0 7 rfl
theorem dX5_placesOf_11 : decode cX5_placesOf 11 = .ok (.iload 6, 2) := kq.at kqdX5_placesOf_0 8 rfl
theorem dX5_placesOf_13 : decode cX5_placesOf 13 = .ok (.aload_n 0, 1) := kq.at kqdX5_placesOf_0 9 rfl
theorem dX5_placesOf_14 : decode cX5_placesOf 14 = .ok (.getfield 15, 3) := kq.at kqdX5_placesOf_0 10 rfl
theorem dX5_placesOf_17 : decode cX5_placesOf 17 = .ok (.if_icmp .ge 65, 3) := kq.at kqdX5_placesOf_0 11 rfl
theorem dX5_placesOf_20 : decode cX5_placesOf 20 = .ok (.aload_n 0, 1) := kq.at kqdX5_placesOf_0 12 rfl
theorem dX5_placesOf_21 : decode cX5_placesOf 21 = .ok (.iload 6, 2) := kq.at kqdX5_placesOf_0 13 rfl
theorem dX5_placesOf_23 : decode cX5_placesOf 23 = .ok (.invokevirtual 51, 3) := kq.at kqdX5_placesOf_0 14 rfl
theorem dX5_placesOf_26 : decode cX5_placesOf 26 = .ok (.ifCond .eq 22, 3) := kq.at kqdX5_placesOf_0 15 rfl
theorem dX5_placesOf_29 : decode cX5_placesOf 29 = .ok (.iload 6, 2) := kq.at kqdX5_placesOf_0 16 rfl
theorem dX5_placesOf_31 : decode cX5_placesOf 31 = .ok (.istore 4, 2) := kq.at kqdX5_placesOf_0 17 rfl
theorem dX5_placesOf_33 : decode cX5_placesOf 33 = .ok (.aload_n 0, 1) := kq.at kqdX5_placesOf_0 18 rfl
theorem dX5_placesOf_34 : decode cX5_placesOf 34 = .ok (.getfield 9, 3) := kq.at kqdX5_placesOf_0 19 rfl
theorem dX5_placesOf_37 : decode cX5_placesOf 37 = .ok (.aload_n 0, 1) := kq.at kqdX5_placesOf_0 20 rfl
theorem dX5_placesOf_38 : decode cX5_placesOf 38 = .ok (.getfield 15, 3) := kq.at kqdX5_placesOf_0 21 rfl
theorem dX5_placesOf_41 : decode cX5_placesOf 41 = .ok (.iload 6, 2) := kq.at kqdX5_placesOf_0 22 rfl
theorem dX5_placesOf_43 : decode cX5_placesOf 43 = .ok (.invokestatic 54, 3) := kq.at kqdX5_placesOf_0 23 rfl
theorem kqdX5_placesOf_46 : kq cX5_placesOf [(46, .istore 5, 2), (48, .iload 6, 2), (50, .iload 5, 2), (52, .if_icmp .ge 24, 3), (55, .aload_n 2, 1), (56, .iload_n 1, 1), (57, .aload_n 0, 1), (58, .getfield 9, 3), (61, .iload 4, 2), (63, .iload 5, 2), (65, .iload 6, 2), (67, .invokevirtual 58, 3), (70, .ifCond .eq 6, 3), (73, .iinc 3 1, 3), (76, .iinc 6 1, 3), (79, .goto (-68), 3), (82, .iload_n 3, 1), (83, .ireturn, 1)] = true := by decide +kernel
theorem dX5_placesOf_46 : decode cX5_placesOf 46 = .ok (.istore 5, 2) := kq.at kqdX5_placesOf_46 0 rfl
theorem dX5_placesOf_48 : decode cX5_placesOf 48 = .ok (.iload 6, 2) := kq.at kqdX5_placesOf_46 1 rfl
theorem dX5_placesOf_50 : decode cX5_placesOf 50 = .ok (.iload 5, 2) := kq.at kqdX5_placesOf_46 2 rfl
theorem dX5_placesOf_52 : decode cX5_placesOf 52 = .ok (.if_icmp .ge 24, 3) := kq.at kqdX5_placesOf_46 3 rfl
theorem dX5_placesOf_55 : decode cX5_placesOf 55 = .ok (.aload_n 2, 1) := kq.at kqdX5_placesOf_46 4 rfl
theorem dX5_placesOf_56 : decode cX5_placesOf 56 = .ok (.iload_n 1, 1) := kq.at kqdX5_placesOf_46 5 rfl
theorem dX5_placesOf_57 : decode cX5_placesOf 57 = .ok (.aload_n 0, 1) := kq.at kqdX5_placesOf_46 6 rfl
theorem dX5_placesOf_58 : decode cX5_placesOf 58 = .ok (.getfield 9, 3) := kq.at kqdX5_placesOf_46 7 rfl
theorem dX5_placesOf_61 : decode cX5_placesOf 61 = .ok (.iload 4, 2) := kq.at kqdX5_placesOf_46 8 rfl
theorem dX5_placesOf_63 : decode cX5_placesOf 63 = .ok (.iload 5, 2) := kq.at kqdX5_placesOf_46 9 rfl
theorem dX5_placesOf_65 : decode cX5_placesOf 65 = .ok (.iload 6, 2) := kq.at kqdX5_placesOf_46 10 rfl
theorem dX5_placesOf_67 : decode cX5_placesOf 67 = .ok (.invokevirtual 58, 3) := kq.at kqdX5_placesOf_46 11 rfl
theorem dX5_placesOf_70 : decode cX5_placesOf 70 = .ok (.ifCond .eq 6, 3) := kq.at kqdX5_placesOf_46 12 rfl
theorem dX5_placesOf_73 : decode cX5_placesOf 73 = .ok (.iinc 3 1, 3) := kq.at kqdX5_placesOf_46 13 rfl
theorem dX5_placesOf_76 : decode cX5_placesOf 76 = .ok (.iinc 6 1, 3) := kq.at kqdX5_placesOf_46 14 rfl
theorem dX5_placesOf_79 : decode cX5_placesOf 79 = .ok (.goto (-68), 3) := kq.at kqdX5_placesOf_46 15 rfl
theorem dX5_placesOf_82 : decode cX5_placesOf 82 = .ok (.iload_n 3, 1) := kq.at kqdX5_placesOf_46 16 rfl
theorem dX5_placesOf_83 : decode cX5_placesOf 83 = .ok (.ireturn, 1) := kq.at kqdX5_placesOf_46 17 rfl
theorem kqdX5_plainLetterCells_0 : kq cX5_plainLetterCells [(0, .iconst 0, 1), (1, .istore_n 2, 1), (2, .iconst 0, 1), (3, .istore_n 3, 1), (4, .iload_n 3, 1), (5, .aload_n 0, 1), (6, .getfield 15, 3), (9, .if_icmp .ge 58, 3), (12, .aload_n 0, 1), (13, .getfield 9, 3), (16, .iload_n 3, 1), (17, .iaload, 1), (18, .invokestatic 41, 3), (21, .ifCond .eq 40, 3), (24, .aload_n 1, 1), (25, .aload_n 0, 1), (26, .getfield 9, 3), (29, .iload_n 3, 1), (30, .iaload, 1), (31, .invokestatic 47, 3), (34, .aload_n 1, 1), (35, .getfield 64, 3), (38, .invokevirtual 67, 3), (41, .istore 4, 2)] = true := by decide +kernel
theorem dX5_plainLetterCells_0 : decode cX5_plainLetterCells 0 = .ok (.iconst 0, 1) := kq.at kqdX5_plainLetterCells_0 0 rfl
theorem dX5_plainLetterCells_1 : decode cX5_plainLetterCells 1 = .ok (.istore_n 2, 1) := kq.at kqdX5_plainLetterCells_0 1 rfl
theorem dX5_plainLetterCells_2 : decode cX5_plainLetterCells 2 = .ok (.iconst 0, 1) := kq.at kqdX5_plainLetterCells_0 2 rfl
theorem dX5_plainLetterCells_3 : decode cX5_plainLetterCells 3 = .ok (.istore_n 3, 1) := kq.at kqdX5_plainLetterCells_0 3 rfl
theorem dX5_plainLetterCells_4 : decode cX5_plainLetterCells 4 = .ok (.iload_n 3, 1) := kq.at kqdX5_plainLetterCells_0 4 rfl
theorem dX5_plainLetterCells_5 : decode cX5_plainLetterCells 5 = .ok (.aload_n 0, 1) := kq.at kqdX5_plainLetterCells_0 5 rfl
theorem dX5_plainLetterCells_6 : decode cX5_plainLetterCells 6 = .ok (.getfield 15, 3) := kq.at kqdX5_plainLetterCells_0 6 rfl
theorem dX5_plainLetterCells_9 : decode cX5_plainLetterCells 9 = .ok (.if_icmp .ge 58, 3) := kq.at kqdX5_plainLetterCells_0 7 rfl
theorem dX5_plainLetterCells_12 : decode cX5_plainLetterCells 12 = .ok (.aload_n 0, 1) := kq.at kqdX5_plainLetterCells_0 8 rfl
theorem dX5_plainLetterCells_13 : decode cX5_plainLetterCells 13 = .ok (.getfield 9, 3) := kq.at kqdX5_plainLetterCells_0 9 rfl
theorem dX5_plainLetterCells_16 : decode cX5_plainLetterCells 16 = .ok (.iload_n 3, 1) := kq.at kqdX5_plainLetterCells_0 10 rfl
theorem dX5_plainLetterCells_17 : decode cX5_plainLetterCells 17 = .ok (.iaload, 1) := kq.at kqdX5_plainLetterCells_0 11 rfl
theorem dX5_plainLetterCells_18 : decode cX5_plainLetterCells 18 = .ok (.invokestatic 41, 3) := kq.at kqdX5_plainLetterCells_0 12 rfl
theorem dX5_plainLetterCells_21 : decode cX5_plainLetterCells 21 = .ok (.ifCond .eq 40, 3) := kq.at kqdX5_plainLetterCells_0 13 rfl
theorem dX5_plainLetterCells_24 : decode cX5_plainLetterCells 24 = .ok (.aload_n 1, 1) := kq.at kqdX5_plainLetterCells_0 14 rfl
theorem dX5_plainLetterCells_25 : decode cX5_plainLetterCells 25 = .ok (.aload_n 0, 1) := kq.at kqdX5_plainLetterCells_0 15 rfl
theorem dX5_plainLetterCells_26 : decode cX5_plainLetterCells 26 = .ok (.getfield 9, 3) := kq.at kqdX5_plainLetterCells_0 16 rfl
theorem dX5_plainLetterCells_29 : decode cX5_plainLetterCells 29 = .ok (.iload_n 3, 1) := kq.at kqdX5_plainLetterCells_0 17 rfl
theorem dX5_plainLetterCells_30 : decode cX5_plainLetterCells 30 = .ok (.iaload, 1) := kq.at kqdX5_plainLetterCells_0 18 rfl
theorem dX5_plainLetterCells_31 : decode cX5_plainLetterCells 31 = .ok (.invokestatic 47, 3) := kq.at kqdX5_plainLetterCells_0 19 rfl
theorem dX5_plainLetterCells_34 : decode cX5_plainLetterCells 34 = .ok (.aload_n 1, 1) := kq.at kqdX5_plainLetterCells_0 20 rfl
theorem dX5_plainLetterCells_35 : decode cX5_plainLetterCells 35 = .ok (.getfield 64, 3) := kq.at kqdX5_plainLetterCells_0 21 rfl
theorem dX5_plainLetterCells_38 : decode cX5_plainLetterCells 38 = .ok (.invokevirtual 67, 3) := kq.at kqdX5_plainLetterCells_0 22 rfl
theorem dX5_plainLetterCells_41 : decode cX5_plainLetterCells 41 = .ok (.istore 4, 2) := kq.at kqdX5_plainLetterCells_0 23 rfl
theorem kqdX5_plainLetterCells_43 : kq cX5_plainLetterCells [(43, .iload 4, 2), (45, .iconst (-1), 1), (46, .if_icmp .ne 5, 3), (49, .iconst (-1), 1), (50, .ireturn, 1), (51, .iload_n 2, 1), (52, .aload_n 1, 1), (53, .getfield 70, 3), (56, .iload 4, 2), (58, .iaload, 1), (59, .iadd, 1), (60, .istore_n 2, 1), (61, .iinc 3 1, 3), (64, .goto (-60), 3), (67, .iload_n 2, 1), (68, .ireturn, 1)] = true := by decide +kernel
theorem dX5_plainLetterCells_43 : decode cX5_plainLetterCells 43 = .ok (.iload 4, 2) := kq.at kqdX5_plainLetterCells_43 0 rfl
theorem dX5_plainLetterCells_45 : decode cX5_plainLetterCells 45 = .ok (.iconst (-1), 1) := kq.at kqdX5_plainLetterCells_43 1 rfl
theorem dX5_plainLetterCells_46 : decode cX5_plainLetterCells 46 = .ok (.if_icmp .ne 5, 3) := kq.at kqdX5_plainLetterCells_43 2 rfl
theorem dX5_plainLetterCells_49 : decode cX5_plainLetterCells 49 = .ok (.iconst (-1), 1) := kq.at kqdX5_plainLetterCells_43 3 rfl
theorem dX5_plainLetterCells_50 : decode cX5_plainLetterCells 50 = .ok (.ireturn, 1) := kq.at kqdX5_plainLetterCells_43 4 rfl
theorem dX5_plainLetterCells_51 : decode cX5_plainLetterCells 51 = .ok (.iload_n 2, 1) := kq.at kqdX5_plainLetterCells_43 5 rfl
theorem dX5_plainLetterCells_52 : decode cX5_plainLetterCells 52 = .ok (.aload_n 1, 1) := kq.at kqdX5_plainLetterCells_43 6 rfl
theorem dX5_plainLetterCells_53 : decode cX5_plainLetterCells 53 = .ok (.getfield 70, 3) := kq.at kqdX5_plainLetterCells_43 7 rfl
theorem dX5_plainLetterCells_56 : decode cX5_plainLetterCells 56 = .ok (.iload 4, 2) := kq.at kqdX5_plainLetterCells_43 8 rfl
theorem dX5_plainLetterCells_58 : decode cX5_plainLetterCells 58 = .ok (.iaload, 1) := kq.at kqdX5_plainLetterCells_43 9 rfl
theorem dX5_plainLetterCells_59 : decode cX5_plainLetterCells 59 = .ok (.iadd, 1) := kq.at kqdX5_plainLetterCells_43 10 rfl
theorem dX5_plainLetterCells_60 : decode cX5_plainLetterCells 60 = .ok (.istore_n 2, 1) := kq.at kqdX5_plainLetterCells_43 11 rfl
theorem dX5_plainLetterCells_61 : decode cX5_plainLetterCells 61 = .ok (.iinc 3 1, 3) := kq.at kqdX5_plainLetterCells_43 12 rfl
theorem dX5_plainLetterCells_64 : decode cX5_plainLetterCells 64 = .ok (.goto (-60), 3) := kq.at kqdX5_plainLetterCells_43 13 rfl
theorem dX5_plainLetterCells_67 : decode cX5_plainLetterCells 67 = .ok (.iload_n 2, 1) := kq.at kqdX5_plainLetterCells_43 14 rfl
theorem dX5_plainLetterCells_68 : decode cX5_plainLetterCells 68 = .ok (.ireturn, 1) := kq.at kqdX5_plainLetterCells_43 15 rfl
theorem kqdX5_fewestLetterCells_0 : kq cX5_fewestLetterCells [(0, .iconst 0, 1), (1, .istore_n 2, 1), (2, .iconst 0, 1), (3, .istore_n 3, 1), (4, .iload_n 3, 1), (5, .aload_n 0, 1), (6, .getfield 15, 3), (9, .if_icmp .ge 38, 3), (12, .aload_n 0, 1), (13, .iload_n 3, 1), (14, .invokevirtual 51, 3), (17, .ifCond .eq 24, 3), (20, .iload_n 2, 1), (21, .aload_n 0, 1), (22, .iload_n 3, 1), (23, .aload_n 0, 1), (24, .getfield 9, 3), (27, .aload_n 0, 1), (28, .getfield 15, 3), (31, .iload_n 3, 1), (32, .invokestatic 54, 3), (35, .aload_n 1, 1), (36, .invokevirtual 73, 3), (39, .iadd, 1)] = true := by decide +kernel
theorem dX5_fewestLetterCells_0 : decode cX5_fewestLetterCells 0 = .ok (.iconst 0, 1) := kq.at kqdX5_fewestLetterCells_0 0 rfl
theorem dX5_fewestLetterCells_1 : decode cX5_fewestLetterCells 1 = .ok (.istore_n 2, 1) := kq.at kqdX5_fewestLetterCells_0 1 rfl
theorem dX5_fewestLetterCells_2 : decode cX5_fewestLetterCells 2 = .ok (.iconst 0, 1) := kq.at kqdX5_fewestLetterCells_0 2 rfl
theorem dX5_fewestLetterCells_3 : decode cX5_fewestLetterCells 3 = .ok (.istore_n 3, 1) := kq.at kqdX5_fewestLetterCells_0 3 rfl
theorem dX5_fewestLetterCells_4 : decode cX5_fewestLetterCells 4 = .ok (.iload_n 3, 1) := kq.at kqdX5_fewestLetterCells_0 4 rfl
theorem dX5_fewestLetterCells_5 : decode cX5_fewestLetterCells 5 = .ok (.aload_n 0, 1) := kq.at kqdX5_fewestLetterCells_0 5 rfl
theorem dX5_fewestLetterCells_6 : decode cX5_fewestLetterCells 6 = .ok (.getfield 15, 3) := kq.at kqdX5_fewestLetterCells_0 6 rfl
theorem dX5_fewestLetterCells_9 : decode cX5_fewestLetterCells 9 = .ok (.if_icmp .ge 38, 3) := kq.at kqdX5_fewestLetterCells_0 7 rfl
theorem dX5_fewestLetterCells_12 : decode cX5_fewestLetterCells 12 = .ok (.aload_n 0, 1) := kq.at kqdX5_fewestLetterCells_0 8 rfl
theorem dX5_fewestLetterCells_13 : decode cX5_fewestLetterCells 13 = .ok (.iload_n 3, 1) := kq.at kqdX5_fewestLetterCells_0 9 rfl
theorem dX5_fewestLetterCells_14 : decode cX5_fewestLetterCells 14 = .ok (.invokevirtual 51, 3) := kq.at kqdX5_fewestLetterCells_0 10 rfl
theorem dX5_fewestLetterCells_17 : decode cX5_fewestLetterCells 17 = .ok (.ifCond .eq 24, 3) := kq.at kqdX5_fewestLetterCells_0 11 rfl
theorem dX5_fewestLetterCells_20 : decode cX5_fewestLetterCells 20 = .ok (.iload_n 2, 1) := kq.at kqdX5_fewestLetterCells_0 12 rfl
theorem dX5_fewestLetterCells_21 : decode cX5_fewestLetterCells 21 = .ok (.aload_n 0, 1) := kq.at kqdX5_fewestLetterCells_0 13 rfl
theorem dX5_fewestLetterCells_22 : decode cX5_fewestLetterCells 22 = .ok (.iload_n 3, 1) := kq.at kqdX5_fewestLetterCells_0 14 rfl
theorem dX5_fewestLetterCells_23 : decode cX5_fewestLetterCells 23 = .ok (.aload_n 0, 1) := kq.at kqdX5_fewestLetterCells_0 15 rfl
theorem dX5_fewestLetterCells_24 : decode cX5_fewestLetterCells 24 = .ok (.getfield 9, 3) := kq.at kqdX5_fewestLetterCells_0 16 rfl
theorem dX5_fewestLetterCells_27 : decode cX5_fewestLetterCells 27 = .ok (.aload_n 0, 1) := kq.at kqdX5_fewestLetterCells_0 17 rfl
theorem dX5_fewestLetterCells_28 : decode cX5_fewestLetterCells 28 = .ok (.getfield 15, 3) := kq.at kqdX5_fewestLetterCells_0 18 rfl
theorem dX5_fewestLetterCells_31 : decode cX5_fewestLetterCells 31 = .ok (.iload_n 3, 1) := kq.at kqdX5_fewestLetterCells_0 19 rfl
theorem dX5_fewestLetterCells_32 : decode cX5_fewestLetterCells 32 = .ok (.invokestatic 54, 3) := kq.at kqdX5_fewestLetterCells_0 20 rfl
theorem dX5_fewestLetterCells_35 : decode cX5_fewestLetterCells 35 = .ok (.aload_n 1, 1) := kq.at kqdX5_fewestLetterCells_0 21 rfl
theorem dX5_fewestLetterCells_36 : decode cX5_fewestLetterCells 36 = .ok (.invokevirtual 73, 3) := kq.at kqdX5_fewestLetterCells_0 22 rfl
theorem dX5_fewestLetterCells_39 : decode cX5_fewestLetterCells 39 = .ok (.iadd, 1) := kq.at kqdX5_fewestLetterCells_0 23 rfl
theorem kqdX5_fewestLetterCells_40 : kq cX5_fewestLetterCells [(40, .istore_n 2, 1), (41, .iinc 3 1, 3), (44, .goto (-40), 3), (47, .iload_n 2, 1), (48, .ireturn, 1)] = true := by decide +kernel
theorem dX5_fewestLetterCells_40 : decode cX5_fewestLetterCells 40 = .ok (.istore_n 2, 1) := kq.at kqdX5_fewestLetterCells_40 0 rfl
theorem dX5_fewestLetterCells_41 : decode cX5_fewestLetterCells 41 = .ok (.iinc 3 1, 3) := kq.at kqdX5_fewestLetterCells_40 1 rfl
theorem dX5_fewestLetterCells_44 : decode cX5_fewestLetterCells 44 = .ok (.goto (-40), 3) := kq.at kqdX5_fewestLetterCells_40 2 rfl
theorem dX5_fewestLetterCells_47 : decode cX5_fewestLetterCells 47 = .ok (.iload_n 2, 1) := kq.at kqdX5_fewestLetterCells_40 3 rfl
theorem dX5_fewestLetterCells_48 : decode cX5_fewestLetterCells 48 = .ok (.ireturn, 1) := kq.at kqdX5_fewestLetterCells_40 4 rfl
theorem kqdX5_fewestOfWord_0 : kq cX5_fewestOfWord [(0, .aload_n 0, 1), (1, .getfield 19, 3), (4, .iload_n 2, 1), (5, .iconst 0, 1), (6, .iastore, 1), (7, .iload_n 2, 1), (8, .iconst 1, 1), (9, .isub, 1), (10, .istore 4, 2), (12, .iload 4, 2), (14, .iload_n 1, 1), (15, .if_icmp .lt 89, 3), (18, .aload_n 0, 1), (19, .getfield 19, 3), (22, .iload 4, 2), (24, .iconst (-1), 1), (25, .iastore, 1), (26, .iconst 0, 1), (27, .istore 5, 2), (29, .iload 5, 2), (31, .aload_n 3, 1), (32, .getfield 77, 3), (35, .if_icmp .ge 63, 3), (38, .aload_n 3, 1)] = true := by decide +kernel
theorem dX5_fewestOfWord_0 : decode cX5_fewestOfWord 0 = .ok (.aload_n 0, 1) := kq.at kqdX5_fewestOfWord_0 0 rfl
theorem dX5_fewestOfWord_1 : decode cX5_fewestOfWord 1 = .ok (.getfield 19, 3) := kq.at kqdX5_fewestOfWord_0 1 rfl
theorem dX5_fewestOfWord_4 : decode cX5_fewestOfWord 4 = .ok (.iload_n 2, 1) := kq.at kqdX5_fewestOfWord_0 2 rfl
theorem dX5_fewestOfWord_5 : decode cX5_fewestOfWord 5 = .ok (.iconst 0, 1) := kq.at kqdX5_fewestOfWord_0 3 rfl
theorem dX5_fewestOfWord_6 : decode cX5_fewestOfWord 6 = .ok (.iastore, 1) := kq.at kqdX5_fewestOfWord_0 4 rfl
theorem dX5_fewestOfWord_7 : decode cX5_fewestOfWord 7 = .ok (.iload_n 2, 1) := kq.at kqdX5_fewestOfWord_0 5 rfl
theorem dX5_fewestOfWord_8 : decode cX5_fewestOfWord 8 = .ok (.iconst 1, 1) := kq.at kqdX5_fewestOfWord_0 6 rfl
theorem dX5_fewestOfWord_9 : decode cX5_fewestOfWord 9 = .ok (.isub, 1) := kq.at kqdX5_fewestOfWord_0 7 rfl
theorem dX5_fewestOfWord_10 : decode cX5_fewestOfWord 10 = .ok (.istore 4, 2) := kq.at kqdX5_fewestOfWord_0 8 rfl
theorem dX5_fewestOfWord_12 : decode cX5_fewestOfWord 12 = .ok (.iload 4, 2) := kq.at kqdX5_fewestOfWord_0 9 rfl
theorem dX5_fewestOfWord_14 : decode cX5_fewestOfWord 14 = .ok (.iload_n 1, 1) := kq.at kqdX5_fewestOfWord_0 10 rfl
theorem dX5_fewestOfWord_15 : decode cX5_fewestOfWord 15 = .ok (.if_icmp .lt 89, 3) := kq.at kqdX5_fewestOfWord_0 11 rfl
theorem dX5_fewestOfWord_18 : decode cX5_fewestOfWord 18 = .ok (.aload_n 0, 1) := kq.at kqdX5_fewestOfWord_0 12 rfl
theorem dX5_fewestOfWord_19 : decode cX5_fewestOfWord 19 = .ok (.getfield 19, 3) := kq.at kqdX5_fewestOfWord_0 13 rfl
theorem dX5_fewestOfWord_22 : decode cX5_fewestOfWord 22 = .ok (.iload 4, 2) := kq.at kqdX5_fewestOfWord_0 14 rfl
theorem dX5_fewestOfWord_24 : decode cX5_fewestOfWord 24 = .ok (.iconst (-1), 1) := kq.at kqdX5_fewestOfWord_0 15 rfl
theorem dX5_fewestOfWord_25 : decode cX5_fewestOfWord 25 = .ok (.iastore, 1) := kq.at kqdX5_fewestOfWord_0 16 rfl
theorem dX5_fewestOfWord_26 : decode cX5_fewestOfWord 26 = .ok (.iconst 0, 1) := kq.at kqdX5_fewestOfWord_0 17 rfl
theorem dX5_fewestOfWord_27 : decode cX5_fewestOfWord 27 = .ok (.istore 5, 2) := kq.at kqdX5_fewestOfWord_0 18 rfl
theorem dX5_fewestOfWord_29 : decode cX5_fewestOfWord 29 = .ok (.iload 5, 2) := kq.at kqdX5_fewestOfWord_0 19 rfl
theorem dX5_fewestOfWord_31 : decode cX5_fewestOfWord 31 = .ok (.aload_n 3, 1) := kq.at kqdX5_fewestOfWord_0 20 rfl
theorem dX5_fewestOfWord_32 : decode cX5_fewestOfWord 32 = .ok (.getfield 77, 3) := kq.at kqdX5_fewestOfWord_0 21 rfl
theorem dX5_fewestOfWord_35 : decode cX5_fewestOfWord 35 = .ok (.if_icmp .ge 63, 3) := kq.at kqdX5_fewestOfWord_0 22 rfl
theorem dX5_fewestOfWord_38 : decode cX5_fewestOfWord 38 = .ok (.aload_n 3, 1) := kq.at kqdX5_fewestOfWord_0 23 rfl
theorem kqdX5_fewestOfWord_39 : kq cX5_fewestOfWord [(39, .iload 5, 2), (41, .invokevirtual 80, 3), (44, .ifCond .eq 48, 3), (47, .aload_n 3, 1), (48, .iload 5, 2), (50, .aload_n 0, 1), (51, .getfield 9, 3), (54, .iload_n 1, 1), (55, .iload_n 2, 1), (56, .iload 4, 2), (58, .invokevirtual 58, 3), (61, .ifCond .eq 31, 3), (64, .aload_n 0, 1), (65, .iload 4, 2), (67, .aload_n 3, 1), (68, .getfield 70, 3), (71, .iload 5, 2), (73, .iaload, 1), (74, .aload_n 0, 1), (75, .getfield 19, 3), (78, .iload 4, 2), (80, .aload_n 3, 1), (81, .getfield 83, 3), (84, .iload 5, 2)] = true := by decide +kernel
theorem dX5_fewestOfWord_39 : decode cX5_fewestOfWord 39 = .ok (.iload 5, 2) := kq.at kqdX5_fewestOfWord_39 0 rfl
theorem dX5_fewestOfWord_41 : decode cX5_fewestOfWord 41 = .ok (.invokevirtual 80, 3) := kq.at kqdX5_fewestOfWord_39 1 rfl
theorem dX5_fewestOfWord_44 : decode cX5_fewestOfWord 44 = .ok (.ifCond .eq 48, 3) := kq.at kqdX5_fewestOfWord_39 2 rfl
theorem dX5_fewestOfWord_47 : decode cX5_fewestOfWord 47 = .ok (.aload_n 3, 1) := kq.at kqdX5_fewestOfWord_39 3 rfl
theorem dX5_fewestOfWord_48 : decode cX5_fewestOfWord 48 = .ok (.iload 5, 2) := kq.at kqdX5_fewestOfWord_39 4 rfl
theorem dX5_fewestOfWord_50 : decode cX5_fewestOfWord 50 = .ok (.aload_n 0, 1) := kq.at kqdX5_fewestOfWord_39 5 rfl
theorem dX5_fewestOfWord_51 : decode cX5_fewestOfWord 51 = .ok (.getfield 9, 3) := kq.at kqdX5_fewestOfWord_39 6 rfl
theorem dX5_fewestOfWord_54 : decode cX5_fewestOfWord 54 = .ok (.iload_n 1, 1) := kq.at kqdX5_fewestOfWord_39 7 rfl
theorem dX5_fewestOfWord_55 : decode cX5_fewestOfWord 55 = .ok (.iload_n 2, 1) := kq.at kqdX5_fewestOfWord_39 8 rfl
theorem dX5_fewestOfWord_56 : decode cX5_fewestOfWord 56 = .ok (.iload 4, 2) := kq.at kqdX5_fewestOfWord_39 9 rfl
theorem dX5_fewestOfWord_58 : decode cX5_fewestOfWord 58 = .ok (.invokevirtual 58, 3) := kq.at kqdX5_fewestOfWord_39 10 rfl
theorem dX5_fewestOfWord_61 : decode cX5_fewestOfWord 61 = .ok (.ifCond .eq 31, 3) := kq.at kqdX5_fewestOfWord_39 11 rfl
theorem dX5_fewestOfWord_64 : decode cX5_fewestOfWord 64 = .ok (.aload_n 0, 1) := kq.at kqdX5_fewestOfWord_39 12 rfl
theorem dX5_fewestOfWord_65 : decode cX5_fewestOfWord 65 = .ok (.iload 4, 2) := kq.at kqdX5_fewestOfWord_39 13 rfl
theorem dX5_fewestOfWord_67 : decode cX5_fewestOfWord 67 = .ok (.aload_n 3, 1) := kq.at kqdX5_fewestOfWord_39 14 rfl
theorem dX5_fewestOfWord_68 : decode cX5_fewestOfWord 68 = .ok (.getfield 70, 3) := kq.at kqdX5_fewestOfWord_39 15 rfl
theorem dX5_fewestOfWord_71 : decode cX5_fewestOfWord 71 = .ok (.iload 5, 2) := kq.at kqdX5_fewestOfWord_39 16 rfl
theorem dX5_fewestOfWord_73 : decode cX5_fewestOfWord 73 = .ok (.iaload, 1) := kq.at kqdX5_fewestOfWord_39 17 rfl
theorem dX5_fewestOfWord_74 : decode cX5_fewestOfWord 74 = .ok (.aload_n 0, 1) := kq.at kqdX5_fewestOfWord_39 18 rfl
theorem dX5_fewestOfWord_75 : decode cX5_fewestOfWord 75 = .ok (.getfield 19, 3) := kq.at kqdX5_fewestOfWord_39 19 rfl
theorem dX5_fewestOfWord_78 : decode cX5_fewestOfWord 78 = .ok (.iload 4, 2) := kq.at kqdX5_fewestOfWord_39 20 rfl
theorem dX5_fewestOfWord_80 : decode cX5_fewestOfWord 80 = .ok (.aload_n 3, 1) := kq.at kqdX5_fewestOfWord_39 21 rfl
theorem dX5_fewestOfWord_81 : decode cX5_fewestOfWord 81 = .ok (.getfield 83, 3) := kq.at kqdX5_fewestOfWord_39 22 rfl
theorem dX5_fewestOfWord_84 : decode cX5_fewestOfWord 84 = .ok (.iload 5, 2) := kq.at kqdX5_fewestOfWord_39 23 rfl
theorem kqdX5_fewestOfWord_86 : kq cX5_fewestOfWord [(86, .iaload, 1), (87, .iadd, 1), (88, .iaload, 1), (89, .invokevirtual 86, 3), (92, .iinc 5 1, 3), (95, .goto (-66), 3), (98, .iinc 4 (-1), 3), (101, .goto (-89), 3), (104, .aload_n 0, 1), (105, .getfield 19, 3), (108, .iload_n 1, 1), (109, .iaload, 1), (110, .ireturn, 1)] = true := by decide +kernel
theorem dX5_fewestOfWord_86 : decode cX5_fewestOfWord 86 = .ok (.iaload, 1) := kq.at kqdX5_fewestOfWord_86 0 rfl
theorem dX5_fewestOfWord_87 : decode cX5_fewestOfWord 87 = .ok (.iadd, 1) := kq.at kqdX5_fewestOfWord_86 1 rfl
theorem dX5_fewestOfWord_88 : decode cX5_fewestOfWord 88 = .ok (.iaload, 1) := kq.at kqdX5_fewestOfWord_86 2 rfl
theorem dX5_fewestOfWord_89 : decode cX5_fewestOfWord 89 = .ok (.invokevirtual 86, 3) := kq.at kqdX5_fewestOfWord_86 3 rfl
theorem dX5_fewestOfWord_92 : decode cX5_fewestOfWord 92 = .ok (.iinc 5 1, 3) := kq.at kqdX5_fewestOfWord_86 4 rfl
theorem dX5_fewestOfWord_95 : decode cX5_fewestOfWord 95 = .ok (.goto (-66), 3) := kq.at kqdX5_fewestOfWord_86 5 rfl
theorem dX5_fewestOfWord_98 : decode cX5_fewestOfWord 98 = .ok (.iinc 4 (-1), 3) := kq.at kqdX5_fewestOfWord_86 6 rfl
theorem dX5_fewestOfWord_101 : decode cX5_fewestOfWord 101 = .ok (.goto (-89), 3) := kq.at kqdX5_fewestOfWord_86 7 rfl
theorem dX5_fewestOfWord_104 : decode cX5_fewestOfWord 104 = .ok (.aload_n 0, 1) := kq.at kqdX5_fewestOfWord_86 8 rfl
theorem dX5_fewestOfWord_105 : decode cX5_fewestOfWord 105 = .ok (.getfield 19, 3) := kq.at kqdX5_fewestOfWord_86 9 rfl
theorem dX5_fewestOfWord_108 : decode cX5_fewestOfWord 108 = .ok (.iload_n 1, 1) := kq.at kqdX5_fewestOfWord_86 10 rfl
theorem dX5_fewestOfWord_109 : decode cX5_fewestOfWord 109 = .ok (.iaload, 1) := kq.at kqdX5_fewestOfWord_86 11 rfl
theorem dX5_fewestOfWord_110 : decode cX5_fewestOfWord 110 = .ok (.ireturn, 1) := kq.at kqdX5_fewestOfWord_86 12 rfl
theorem kqdX5_takeIfFewer_0 : kq cX5_takeIfFewer [(0, .iload_n 3, 1), (1, .iconst (-1), 1), (2, .if_icmp .ne 4, 3), (5, .return_, 1), (6, .iload_n 2, 1), (7, .iload_n 3, 1), (8, .iadd, 1), (9, .istore 4, 2), (11, .aload_n 0, 1), (12, .getfield 19, 3), (15, .iload_n 1, 1), (16, .iaload, 1), (17, .iconst (-1), 1), (18, .if_icmp .eq 14, 3), (21, .iload 4, 2), (23, .aload_n 0, 1), (24, .getfield 19, 3), (27, .iload_n 1, 1), (28, .iaload, 1), (29, .if_icmp .ge 11, 3), (32, .aload_n 0, 1), (33, .getfield 19, 3), (36, .iload_n 1, 1), (37, .iload 4, 2)] = true := by decide +kernel
theorem dX5_takeIfFewer_0 : decode cX5_takeIfFewer 0 = .ok (.iload_n 3, 1) := kq.at kqdX5_takeIfFewer_0 0 rfl
theorem dX5_takeIfFewer_1 : decode cX5_takeIfFewer 1 = .ok (.iconst (-1), 1) := kq.at kqdX5_takeIfFewer_0 1 rfl
theorem dX5_takeIfFewer_2 : decode cX5_takeIfFewer 2 = .ok (.if_icmp .ne 4, 3) := kq.at kqdX5_takeIfFewer_0 2 rfl
theorem dX5_takeIfFewer_5 : decode cX5_takeIfFewer 5 = .ok (.return_, 1) := kq.at kqdX5_takeIfFewer_0 3 rfl
theorem dX5_takeIfFewer_6 : decode cX5_takeIfFewer 6 = .ok (.iload_n 2, 1) := kq.at kqdX5_takeIfFewer_0 4 rfl
theorem dX5_takeIfFewer_7 : decode cX5_takeIfFewer 7 = .ok (.iload_n 3, 1) := kq.at kqdX5_takeIfFewer_0 5 rfl
theorem dX5_takeIfFewer_8 : decode cX5_takeIfFewer 8 = .ok (.iadd, 1) := kq.at kqdX5_takeIfFewer_0 6 rfl
theorem dX5_takeIfFewer_9 : decode cX5_takeIfFewer 9 = .ok (.istore 4, 2) := kq.at kqdX5_takeIfFewer_0 7 rfl
theorem dX5_takeIfFewer_11 : decode cX5_takeIfFewer 11 = .ok (.aload_n 0, 1) := kq.at kqdX5_takeIfFewer_0 8 rfl
theorem dX5_takeIfFewer_12 : decode cX5_takeIfFewer 12 = .ok (.getfield 19, 3) := kq.at kqdX5_takeIfFewer_0 9 rfl
theorem dX5_takeIfFewer_15 : decode cX5_takeIfFewer 15 = .ok (.iload_n 1, 1) := kq.at kqdX5_takeIfFewer_0 10 rfl
theorem dX5_takeIfFewer_16 : decode cX5_takeIfFewer 16 = .ok (.iaload, 1) := kq.at kqdX5_takeIfFewer_0 11 rfl
theorem dX5_takeIfFewer_17 : decode cX5_takeIfFewer 17 = .ok (.iconst (-1), 1) := kq.at kqdX5_takeIfFewer_0 12 rfl
theorem dX5_takeIfFewer_18 : decode cX5_takeIfFewer 18 = .ok (.if_icmp .eq 14, 3) := kq.at kqdX5_takeIfFewer_0 13 rfl
theorem dX5_takeIfFewer_21 : decode cX5_takeIfFewer 21 = .ok (.iload 4, 2) := kq.at kqdX5_takeIfFewer_0 14 rfl
theorem dX5_takeIfFewer_23 : decode cX5_takeIfFewer 23 = .ok (.aload_n 0, 1) := kq.at kqdX5_takeIfFewer_0 15 rfl
theorem dX5_takeIfFewer_24 : decode cX5_takeIfFewer 24 = .ok (.getfield 19, 3) := kq.at kqdX5_takeIfFewer_0 16 rfl
theorem dX5_takeIfFewer_27 : decode cX5_takeIfFewer 27 = .ok (.iload_n 1, 1) := kq.at kqdX5_takeIfFewer_0 17 rfl
theorem dX5_takeIfFewer_28 : decode cX5_takeIfFewer 28 = .ok (.iaload, 1) := kq.at kqdX5_takeIfFewer_0 18 rfl
theorem dX5_takeIfFewer_29 : decode cX5_takeIfFewer 29 = .ok (.if_icmp .ge 11, 3) := kq.at kqdX5_takeIfFewer_0 19 rfl
theorem dX5_takeIfFewer_32 : decode cX5_takeIfFewer 32 = .ok (.aload_n 0, 1) := kq.at kqdX5_takeIfFewer_0 20 rfl
theorem dX5_takeIfFewer_33 : decode cX5_takeIfFewer 33 = .ok (.getfield 19, 3) := kq.at kqdX5_takeIfFewer_0 21 rfl
theorem dX5_takeIfFewer_36 : decode cX5_takeIfFewer 36 = .ok (.iload_n 1, 1) := kq.at kqdX5_takeIfFewer_0 22 rfl
theorem dX5_takeIfFewer_37 : decode cX5_takeIfFewer 37 = .ok (.iload 4, 2) := kq.at kqdX5_takeIfFewer_0 23 rfl
theorem kqdX5_takeIfFewer_39 : kq cX5_takeIfFewer [(39, .iastore, 1), (40, .return_, 1)] = true := by decide +kernel
theorem dX5_takeIfFewer_39 : decode cX5_takeIfFewer 39 = .ok (.iastore, 1) := kq.at kqdX5_takeIfFewer_39 0 rfl
theorem dX5_takeIfFewer_40 : decode cX5_takeIfFewer 40 = .ok (.return_, 1) := kq.at kqdX5_takeIfFewer_39 1 rfl
theorem kqdX6_init_0 : kq cX6_init [(0, .aload_n 0, 1), (1, .invokespecial 3, 3), (4, .aload_n 0, 1), (5, .sipush 1200, 3), (8, .newarray .int, 2), (10, .putfield 9, 3), (13, .aload_n 0, 1), (14, .sipush 1200, 3), (17, .newarray .int, 2), (19, .putfield 15, 3), (22, .aload_n 0, 1), (23, .bipush 24, 2), (25, .newarray .int, 2), (27, .putfield 18, 3), (30, .aload_n 0, 1), (31, .iconst 0, 1), (32, .putfield 21, 3), (35, .aload_n 0, 1), (36, .iconst 0, 1), (37, .putfield 25, 3), (40, .aload_n 0, 1), (41, .iconst 0, 1), (42, .putfield 28, 3), (45, .aload_n 0, 1)] = true := by decide +kernel
theorem dX6_init_0 : decode cX6_init 0 = .ok (.aload_n 0, 1) := kq.at kqdX6_init_0 0 rfl
theorem dX6_init_1 : decode cX6_init 1 = .ok (.invokespecial 3, 3) := kq.at kqdX6_init_0 1 rfl
theorem dX6_init_4 : decode cX6_init 4 = .ok (.aload_n 0, 1) := kq.at kqdX6_init_0 2 rfl
theorem dX6_init_5 : decode cX6_init 5 = .ok (.sipush 1200, 3) := kq.at kqdX6_init_0 3 rfl
theorem dX6_init_8 : decode cX6_init 8 = .ok (.newarray .int, 2) := kq.at kqdX6_init_0 4 rfl
theorem dX6_init_10 : decode cX6_init 10 = .ok (.putfield 9, 3) := kq.at kqdX6_init_0 5 rfl
theorem dX6_init_13 : decode cX6_init 13 = .ok (.aload_n 0, 1) := kq.at kqdX6_init_0 6 rfl
theorem dX6_init_14 : decode cX6_init 14 = .ok (.sipush 1200, 3) := kq.at kqdX6_init_0 7 rfl
theorem dX6_init_17 : decode cX6_init 17 = .ok (.newarray .int, 2) := kq.at kqdX6_init_0 8 rfl
theorem dX6_init_19 : decode cX6_init 19 = .ok (.putfield 15, 3) := kq.at kqdX6_init_0 9 rfl
theorem dX6_init_22 : decode cX6_init 22 = .ok (.aload_n 0, 1) := kq.at kqdX6_init_0 10 rfl
theorem dX6_init_23 : decode cX6_init 23 = .ok (.bipush 24, 2) := kq.at kqdX6_init_0 11 rfl
theorem dX6_init_25 : decode cX6_init 25 = .ok (.newarray .int, 2) := kq.at kqdX6_init_0 12 rfl
theorem dX6_init_27 : decode cX6_init 27 = .ok (.putfield 18, 3) := kq.at kqdX6_init_0 13 rfl
theorem dX6_init_30 : decode cX6_init 30 = .ok (.aload_n 0, 1) := kq.at kqdX6_init_0 14 rfl
theorem dX6_init_31 : decode cX6_init 31 = .ok (.iconst 0, 1) := kq.at kqdX6_init_0 15 rfl
theorem dX6_init_32 : decode cX6_init 32 = .ok (.putfield 21, 3) := kq.at kqdX6_init_0 16 rfl
theorem dX6_init_35 : decode cX6_init 35 = .ok (.aload_n 0, 1) := kq.at kqdX6_init_0 17 rfl
theorem dX6_init_36 : decode cX6_init 36 = .ok (.iconst 0, 1) := kq.at kqdX6_init_0 18 rfl
theorem dX6_init_37 : decode cX6_init 37 = .ok (.putfield 25, 3) := kq.at kqdX6_init_0 19 rfl
theorem dX6_init_40 : decode cX6_init 40 = .ok (.aload_n 0, 1) := kq.at kqdX6_init_0 20 rfl
theorem dX6_init_41 : decode cX6_init 41 = .ok (.iconst 0, 1) := kq.at kqdX6_init_0 21 rfl
theorem dX6_init_42 : decode cX6_init 42 = .ok (.putfield 28, 3) := kq.at kqdX6_init_0 22 rfl
theorem dX6_init_45 : decode cX6_init 45 = .ok (.aload_n 0, 1) := kq.at kqdX6_init_0 23 rfl
theorem kqdX6_init_46 : kq cX6_init [(46, .iconst 0, 1), (47, .putfield 31, 3), (50, .aload_n 0, 1), (51, .iconst (-1), 1), (52, .putfield 34, 3), (55, .aload_n 0, 1), (56, .iconst 0, 1), (57, .putfield 37, 3), (60, .aload_n 0, 1), (61, .iconst 0, 1), (62, .putfield 40, 3), (65, .return_, 1)] = true := by decide +kernel
theorem dX6_init_46 : decode cX6_init 46 = .ok (.iconst 0, 1) := kq.at kqdX6_init_46 0 rfl
theorem dX6_init_47 : decode cX6_init 47 = .ok (.putfield 31, 3) := kq.at kqdX6_init_46 1 rfl
theorem dX6_init_50 : decode cX6_init 50 = .ok (.aload_n 0, 1) := kq.at kqdX6_init_46 2 rfl
theorem dX6_init_51 : decode cX6_init 51 = .ok (.iconst (-1), 1) := kq.at kqdX6_init_46 3 rfl
theorem dX6_init_52 : decode cX6_init 52 = .ok (.putfield 34, 3) := kq.at kqdX6_init_46 4 rfl
theorem dX6_init_55 : decode cX6_init 55 = .ok (.aload_n 0, 1) := kq.at kqdX6_init_46 5 rfl
theorem dX6_init_56 : decode cX6_init 56 = .ok (.iconst 0, 1) := kq.at kqdX6_init_46 6 rfl
theorem dX6_init_57 : decode cX6_init 57 = .ok (.putfield 37, 3) := kq.at kqdX6_init_46 7 rfl
theorem dX6_init_60 : decode cX6_init 60 = .ok (.aload_n 0, 1) := kq.at kqdX6_init_46 8 rfl
theorem dX6_init_61 : decode cX6_init 61 = .ok (.iconst 0, 1) := kq.at kqdX6_init_46 9 rfl
theorem dX6_init_62 : decode cX6_init 62 = .ok (.putfield 40, 3) := kq.at kqdX6_init_46 10 rfl
theorem dX6_init_65 : decode cX6_init 65 = .ok (.return_, 1) := kq.at kqdX6_init_46 11 rfl
theorem kqdX6_sets_0 : kq cX6_sets [(0, .aload_n 0, 1), (1, .iload 4, 2), (3, .invokevirtual 43, 3), (6, .iconst 0, 1), (7, .istore 5, 2), (9, .iconst 0, 1), (10, .istore 6, 2), (12, .iconst 0, 1), (13, .istore 7, 2), (15, .iload 7, 2), (17, .iload_n 2, 1), (18, .if_icmp .ge 132, 3), (21, .aload_n 0, 1), (22, .getfield 31, 3), (25, .ifCond .ne 125, 3), (28, .iload 7, 2), (30, .iload 5, 2), (32, .if_icmp .ge 6, 3), (35, .goto 109, 3), (38, .aload_n 1, 1), (39, .iload 7, 2), (41, .iaload, 1), (42, .invokestatic 47, 3), (45, .ifCond .eq 20, 3)] = true := by decide +kernel
theorem dX6_sets_0 : decode cX6_sets 0 = .ok (.aload_n 0, 1) := kq.at kqdX6_sets_0 0 rfl
theorem dX6_sets_1 : decode cX6_sets 1 = .ok (.iload 4, 2) := kq.at kqdX6_sets_0 1 rfl
theorem dX6_sets_3 : decode cX6_sets 3 = .ok (.invokevirtual 43, 3) := kq.at kqdX6_sets_0 2 rfl
theorem dX6_sets_6 : decode cX6_sets 6 = .ok (.iconst 0, 1) := kq.at kqdX6_sets_0 3 rfl
theorem dX6_sets_7 : decode cX6_sets 7 = .ok (.istore 5, 2) := kq.at kqdX6_sets_0 4 rfl
theorem dX6_sets_9 : decode cX6_sets 9 = .ok (.iconst 0, 1) := kq.at kqdX6_sets_0 5 rfl
theorem dX6_sets_10 : decode cX6_sets 10 = .ok (.istore 6, 2) := kq.at kqdX6_sets_0 6 rfl
theorem dX6_sets_12 : decode cX6_sets 12 = .ok (.iconst 0, 1) := kq.at kqdX6_sets_0 7 rfl
theorem dX6_sets_13 : decode cX6_sets 13 = .ok (.istore 7, 2) := kq.at kqdX6_sets_0 8 rfl
theorem dX6_sets_15 : decode cX6_sets 15 = .ok (.iload 7, 2) := kq.at kqdX6_sets_0 9 rfl
theorem dX6_sets_17 : decode cX6_sets 17 = .ok (.iload_n 2, 1) := kq.at kqdX6_sets_0 10 rfl
theorem dX6_sets_18 : decode cX6_sets 18 = .ok (.if_icmp .ge 132, 3) := kq.at kqdX6_sets_0 11 rfl
theorem dX6_sets_21 : decode cX6_sets 21 = .ok (.aload_n 0, 1) := kq.at kqdX6_sets_0 12 rfl
theorem dX6_sets_22 : decode cX6_sets 22 = .ok (.getfield 31, 3) := kq.at kqdX6_sets_0 13 rfl
theorem dX6_sets_25 : decode cX6_sets 25 = .ok (.ifCond .ne 125, 3) := kq.at kqdX6_sets_0 14 rfl
theorem dX6_sets_28 : decode cX6_sets 28 = .ok (.iload 7, 2) := kq.at kqdX6_sets_0 15 rfl
theorem dX6_sets_30 : decode cX6_sets 30 = .ok (.iload 5, 2) := kq.at kqdX6_sets_0 16 rfl
theorem dX6_sets_32 : decode cX6_sets 32 = .ok (.if_icmp .ge 6, 3) := kq.at kqdX6_sets_0 17 rfl
theorem dX6_sets_35 : decode cX6_sets 35 = .ok (.goto 109, 3) := kq.at kqdX6_sets_0 18 rfl
theorem dX6_sets_38 : decode cX6_sets 38 = .ok (.aload_n 1, 1) := kq.at kqdX6_sets_0 19 rfl
theorem dX6_sets_39 : decode cX6_sets 39 = .ok (.iload 7, 2) := kq.at kqdX6_sets_0 20 rfl
theorem dX6_sets_41 : decode cX6_sets 41 = .ok (.iaload, 1) := kq.at kqdX6_sets_0 21 rfl
theorem dX6_sets_42 : decode cX6_sets 42 = .ok (.invokestatic 47, 3) := kq.at kqdX6_sets_0 22 rfl
theorem dX6_sets_45 : decode cX6_sets 45 = .ok (.ifCond .eq 20, 3) := kq.at kqdX6_sets_0 23 rfl
theorem kqdX6_sets_48 : kq cX6_sets [(48, .aload_n 0, 1), (49, .getfield 21, 3), (52, .ifCond .le 7, 3), (55, .iconst 1, 1), (56, .goto 4, 3), (59, .iconst 0, 1), (60, .istore 6, 2), (62, .goto 82, 3), (65, .iload 6, 2), (67, .ifCond .eq 12, 3), (70, .aload_n 0, 1), (71, .iconst 0, 1), (72, .iconst (-1), 1), (73, .invokevirtual 51, 3), (76, .iconst 0, 1), (77, .istore 6, 2), (79, .aload_n 1, 1), (80, .iload 7, 2), (82, .iaload, 1), (83, .invokestatic 55, 3), (86, .ifCond .eq 19, 3), (89, .iload 7, 2), (91, .aload_n 0, 1), (92, .aload_n 1, 1)] = true := by decide +kernel
theorem dX6_sets_48 : decode cX6_sets 48 = .ok (.aload_n 0, 1) := kq.at kqdX6_sets_48 0 rfl
theorem dX6_sets_49 : decode cX6_sets 49 = .ok (.getfield 21, 3) := kq.at kqdX6_sets_48 1 rfl
theorem dX6_sets_52 : decode cX6_sets 52 = .ok (.ifCond .le 7, 3) := kq.at kqdX6_sets_48 2 rfl
theorem dX6_sets_55 : decode cX6_sets 55 = .ok (.iconst 1, 1) := kq.at kqdX6_sets_48 3 rfl
theorem dX6_sets_56 : decode cX6_sets 56 = .ok (.goto 4, 3) := kq.at kqdX6_sets_48 4 rfl
theorem dX6_sets_59 : decode cX6_sets 59 = .ok (.iconst 0, 1) := kq.at kqdX6_sets_48 5 rfl
theorem dX6_sets_60 : decode cX6_sets 60 = .ok (.istore 6, 2) := kq.at kqdX6_sets_48 6 rfl
theorem dX6_sets_62 : decode cX6_sets 62 = .ok (.goto 82, 3) := kq.at kqdX6_sets_48 7 rfl
theorem dX6_sets_65 : decode cX6_sets 65 = .ok (.iload 6, 2) := kq.at kqdX6_sets_48 8 rfl
theorem dX6_sets_67 : decode cX6_sets 67 = .ok (.ifCond .eq 12, 3) := kq.at kqdX6_sets_48 9 rfl
theorem dX6_sets_70 : decode cX6_sets 70 = .ok (.aload_n 0, 1) := kq.at kqdX6_sets_48 10 rfl
theorem dX6_sets_71 : decode cX6_sets 71 = .ok (.iconst 0, 1) := kq.at kqdX6_sets_48 11 rfl
theorem dX6_sets_72 : decode cX6_sets 72 = .ok (.iconst (-1), 1) := kq.at kqdX6_sets_48 12 rfl
theorem dX6_sets_73 : decode cX6_sets 73 = .ok (.invokevirtual 51, 3) := kq.at kqdX6_sets_48 13 rfl
theorem dX6_sets_76 : decode cX6_sets 76 = .ok (.iconst 0, 1) := kq.at kqdX6_sets_48 14 rfl
theorem dX6_sets_77 : decode cX6_sets 77 = .ok (.istore 6, 2) := kq.at kqdX6_sets_48 15 rfl
theorem dX6_sets_79 : decode cX6_sets 79 = .ok (.aload_n 1, 1) := kq.at kqdX6_sets_48 16 rfl
theorem dX6_sets_80 : decode cX6_sets 80 = .ok (.iload 7, 2) := kq.at kqdX6_sets_48 17 rfl
theorem dX6_sets_82 : decode cX6_sets 82 = .ok (.iaload, 1) := kq.at kqdX6_sets_48 18 rfl
theorem dX6_sets_83 : decode cX6_sets 83 = .ok (.invokestatic 55, 3) := kq.at kqdX6_sets_48 19 rfl
theorem dX6_sets_86 : decode cX6_sets 86 = .ok (.ifCond .eq 19, 3) := kq.at kqdX6_sets_48 20 rfl
theorem dX6_sets_89 : decode cX6_sets 89 = .ok (.iload 7, 2) := kq.at kqdX6_sets_48 21 rfl
theorem dX6_sets_91 : decode cX6_sets 91 = .ok (.aload_n 0, 1) := kq.at kqdX6_sets_48 22 rfl
theorem dX6_sets_92 : decode cX6_sets 92 = .ok (.aload_n 1, 1) := kq.at kqdX6_sets_48 23 rfl
theorem kqdX6_sets_93 : kq cX6_sets [(93, .iload 7, 2), (95, .aload_n 3, 1), (96, .invokevirtual 58, 3), (99, .iadd, 1), (100, .istore 5, 2), (102, .goto 42, 3), (105, .aload_n 1, 1), (106, .iload 7, 2), (108, .iaload, 1), (109, .invokestatic 62, 3), (112, .ifCond .eq 20, 3), (115, .iload 7, 2), (117, .aload_n 0, 1), (118, .aload_n 1, 1), (119, .iload_n 2, 1), (120, .iload 7, 2), (122, .aload_n 3, 1), (123, .invokevirtual 65, 3), (126, .iadd, 1), (127, .istore 5, 2), (129, .goto 15, 3), (132, .iload 7, 2), (134, .aload_n 0, 1), (135, .iconst 1, 1)] = true := by decide +kernel
theorem dX6_sets_93 : decode cX6_sets 93 = .ok (.iload 7, 2) := kq.at kqdX6_sets_93 0 rfl
theorem dX6_sets_95 : decode cX6_sets 95 = .ok (.aload_n 3, 1) := kq.at kqdX6_sets_93 1 rfl
theorem dX6_sets_96 : decode cX6_sets 96 = .ok (.invokevirtual 58, 3) := kq.at kqdX6_sets_93 2 rfl
theorem dX6_sets_99 : decode cX6_sets 99 = .ok (.iadd, 1) := kq.at kqdX6_sets_93 3 rfl
theorem dX6_sets_100 : decode cX6_sets 100 = .ok (.istore 5, 2) := kq.at kqdX6_sets_93 4 rfl
theorem dX6_sets_102 : decode cX6_sets 102 = .ok (.goto 42, 3) := kq.at kqdX6_sets_93 5 rfl
theorem dX6_sets_105 : decode cX6_sets 105 = .ok (.aload_n 1, 1) := kq.at kqdX6_sets_93 6 rfl
theorem dX6_sets_106 : decode cX6_sets 106 = .ok (.iload 7, 2) := kq.at kqdX6_sets_93 7 rfl
theorem dX6_sets_108 : decode cX6_sets 108 = .ok (.iaload, 1) := kq.at kqdX6_sets_93 8 rfl
theorem dX6_sets_109 : decode cX6_sets 109 = .ok (.invokestatic 62, 3) := kq.at kqdX6_sets_93 9 rfl
theorem dX6_sets_112 : decode cX6_sets 112 = .ok (.ifCond .eq 20, 3) := kq.at kqdX6_sets_93 10 rfl
theorem dX6_sets_115 : decode cX6_sets 115 = .ok (.iload 7, 2) := kq.at kqdX6_sets_93 11 rfl
theorem dX6_sets_117 : decode cX6_sets 117 = .ok (.aload_n 0, 1) := kq.at kqdX6_sets_93 12 rfl
theorem dX6_sets_118 : decode cX6_sets 118 = .ok (.aload_n 1, 1) := kq.at kqdX6_sets_93 13 rfl
theorem dX6_sets_119 : decode cX6_sets 119 = .ok (.iload_n 2, 1) := kq.at kqdX6_sets_93 14 rfl
theorem dX6_sets_120 : decode cX6_sets 120 = .ok (.iload 7, 2) := kq.at kqdX6_sets_93 15 rfl
theorem dX6_sets_122 : decode cX6_sets 122 = .ok (.aload_n 3, 1) := kq.at kqdX6_sets_93 16 rfl
theorem dX6_sets_123 : decode cX6_sets 123 = .ok (.invokevirtual 65, 3) := kq.at kqdX6_sets_93 17 rfl
theorem dX6_sets_126 : decode cX6_sets 126 = .ok (.iadd, 1) := kq.at kqdX6_sets_93 18 rfl
theorem dX6_sets_127 : decode cX6_sets 127 = .ok (.istore 5, 2) := kq.at kqdX6_sets_93 19 rfl
theorem dX6_sets_129 : decode cX6_sets 129 = .ok (.goto 15, 3) := kq.at kqdX6_sets_93 20 rfl
theorem dX6_sets_132 : decode cX6_sets 132 = .ok (.iload 7, 2) := kq.at kqdX6_sets_93 21 rfl
theorem dX6_sets_134 : decode cX6_sets 134 = .ok (.aload_n 0, 1) := kq.at kqdX6_sets_93 22 rfl
theorem dX6_sets_135 : decode cX6_sets 135 = .ok (.iconst 1, 1) := kq.at kqdX6_sets_93 23 rfl
theorem kqdX6_sets_136 : kq cX6_sets [(136, .iload 7, 2), (138, .invokevirtual 69, 3), (141, .iadd, 1), (142, .istore 5, 2), (144, .iinc 7 1, 3), (147, .goto (-132), 3), (150, .aload_n 0, 1), (151, .getfield 31, 3), (154, .ifCond .ne 7, 3), (157, .iconst 1, 1), (158, .goto 4, 3), (161, .iconst 0, 1), (162, .ireturn, 1)] = true := by decide +kernel
theorem dX6_sets_136 : decode cX6_sets 136 = .ok (.iload 7, 2) := kq.at kqdX6_sets_136 0 rfl
theorem dX6_sets_138 : decode cX6_sets 138 = .ok (.invokevirtual 69, 3) := kq.at kqdX6_sets_136 1 rfl
theorem dX6_sets_141 : decode cX6_sets 141 = .ok (.iadd, 1) := kq.at kqdX6_sets_136 2 rfl
theorem dX6_sets_142 : decode cX6_sets 142 = .ok (.istore 5, 2) := kq.at kqdX6_sets_136 3 rfl
theorem dX6_sets_144 : decode cX6_sets 144 = .ok (.iinc 7 1, 3) := kq.at kqdX6_sets_136 4 rfl
theorem dX6_sets_147 : decode cX6_sets 147 = .ok (.goto (-132), 3) := kq.at kqdX6_sets_136 5 rfl
theorem dX6_sets_150 : decode cX6_sets 150 = .ok (.aload_n 0, 1) := kq.at kqdX6_sets_136 6 rfl
theorem dX6_sets_151 : decode cX6_sets 151 = .ok (.getfield 31, 3) := kq.at kqdX6_sets_136 7 rfl
theorem dX6_sets_154 : decode cX6_sets 154 = .ok (.ifCond .ne 7, 3) := kq.at kqdX6_sets_136 8 rfl
theorem dX6_sets_157 : decode cX6_sets 157 = .ok (.iconst 1, 1) := kq.at kqdX6_sets_136 9 rfl
theorem dX6_sets_158 : decode cX6_sets 158 = .ok (.goto 4, 3) := kq.at kqdX6_sets_136 10 rfl
theorem dX6_sets_161 : decode cX6_sets 161 = .ok (.iconst 0, 1) := kq.at kqdX6_sets_136 11 rfl
theorem dX6_sets_162 : decode cX6_sets 162 = .ok (.ireturn, 1) := kq.at kqdX6_sets_136 12 rfl
theorem kqdX6_begin_0 : kq cX6_begin [(0, .aload_n 0, 1), (1, .iconst 0, 1), (2, .putfield 21, 3), (5, .aload_n 0, 1), (6, .iconst 0, 1), (7, .putfield 25, 3), (10, .aload_n 0, 1), (11, .iload_n 1, 1), (12, .putfield 28, 3), (15, .aload_n 0, 1), (16, .iconst 0, 1), (17, .putfield 31, 3), (20, .aload_n 0, 1), (21, .iconst (-1), 1), (22, .putfield 34, 3), (25, .aload_n 0, 1), (26, .iconst 0, 1), (27, .putfield 37, 3), (30, .aload_n 0, 1), (31, .iconst 0, 1), (32, .putfield 40, 3), (35, .iconst 0, 1), (36, .istore_n 2, 1), (37, .iload_n 2, 1)] = true := by decide +kernel
theorem dX6_begin_0 : decode cX6_begin 0 = .ok (.aload_n 0, 1) := kq.at kqdX6_begin_0 0 rfl
theorem dX6_begin_1 : decode cX6_begin 1 = .ok (.iconst 0, 1) := kq.at kqdX6_begin_0 1 rfl
theorem dX6_begin_2 : decode cX6_begin 2 = .ok (.putfield 21, 3) := kq.at kqdX6_begin_0 2 rfl
theorem dX6_begin_5 : decode cX6_begin 5 = .ok (.aload_n 0, 1) := kq.at kqdX6_begin_0 3 rfl
theorem dX6_begin_6 : decode cX6_begin 6 = .ok (.iconst 0, 1) := kq.at kqdX6_begin_0 4 rfl
theorem dX6_begin_7 : decode cX6_begin 7 = .ok (.putfield 25, 3) := kq.at kqdX6_begin_0 5 rfl
theorem dX6_begin_10 : decode cX6_begin 10 = .ok (.aload_n 0, 1) := kq.at kqdX6_begin_0 6 rfl
theorem dX6_begin_11 : decode cX6_begin 11 = .ok (.iload_n 1, 1) := kq.at kqdX6_begin_0 7 rfl
theorem dX6_begin_12 : decode cX6_begin 12 = .ok (.putfield 28, 3) := kq.at kqdX6_begin_0 8 rfl
theorem dX6_begin_15 : decode cX6_begin 15 = .ok (.aload_n 0, 1) := kq.at kqdX6_begin_0 9 rfl
theorem dX6_begin_16 : decode cX6_begin 16 = .ok (.iconst 0, 1) := kq.at kqdX6_begin_0 10 rfl
theorem dX6_begin_17 : decode cX6_begin 17 = .ok (.putfield 31, 3) := kq.at kqdX6_begin_0 11 rfl
theorem dX6_begin_20 : decode cX6_begin 20 = .ok (.aload_n 0, 1) := kq.at kqdX6_begin_0 12 rfl
theorem dX6_begin_21 : decode cX6_begin 21 = .ok (.iconst (-1), 1) := kq.at kqdX6_begin_0 13 rfl
theorem dX6_begin_22 : decode cX6_begin 22 = .ok (.putfield 34, 3) := kq.at kqdX6_begin_0 14 rfl
theorem dX6_begin_25 : decode cX6_begin 25 = .ok (.aload_n 0, 1) := kq.at kqdX6_begin_0 15 rfl
theorem dX6_begin_26 : decode cX6_begin 26 = .ok (.iconst 0, 1) := kq.at kqdX6_begin_0 16 rfl
theorem dX6_begin_27 : decode cX6_begin 27 = .ok (.putfield 37, 3) := kq.at kqdX6_begin_0 17 rfl
theorem dX6_begin_30 : decode cX6_begin 30 = .ok (.aload_n 0, 1) := kq.at kqdX6_begin_0 18 rfl
theorem dX6_begin_31 : decode cX6_begin 31 = .ok (.iconst 0, 1) := kq.at kqdX6_begin_0 19 rfl
theorem dX6_begin_32 : decode cX6_begin 32 = .ok (.putfield 40, 3) := kq.at kqdX6_begin_0 20 rfl
theorem dX6_begin_35 : decode cX6_begin 35 = .ok (.iconst 0, 1) := kq.at kqdX6_begin_0 21 rfl
theorem dX6_begin_36 : decode cX6_begin 36 = .ok (.istore_n 2, 1) := kq.at kqdX6_begin_0 22 rfl
theorem dX6_begin_37 : decode cX6_begin 37 = .ok (.iload_n 2, 1) := kq.at kqdX6_begin_0 23 rfl
theorem kqdX6_begin_38 : kq cX6_begin [(38, .bipush 24, 2), (40, .if_icmp .ge 16, 3), (43, .aload_n 0, 1), (44, .getfield 18, 3), (47, .iload_n 2, 1), (48, .iconst 0, 1), (49, .iastore, 1), (50, .iinc 2 1, 3), (53, .goto (-16), 3), (56, .return_, 1)] = true := by decide +kernel
theorem dX6_begin_38 : decode cX6_begin 38 = .ok (.bipush 24, 2) := kq.at kqdX6_begin_38 0 rfl
theorem dX6_begin_40 : decode cX6_begin 40 = .ok (.if_icmp .ge 16, 3) := kq.at kqdX6_begin_38 1 rfl
theorem dX6_begin_43 : decode cX6_begin 43 = .ok (.aload_n 0, 1) := kq.at kqdX6_begin_38 2 rfl
theorem dX6_begin_44 : decode cX6_begin 44 = .ok (.getfield 18, 3) := kq.at kqdX6_begin_38 3 rfl
theorem dX6_begin_47 : decode cX6_begin 47 = .ok (.iload_n 2, 1) := kq.at kqdX6_begin_38 4 rfl
theorem dX6_begin_48 : decode cX6_begin 48 = .ok (.iconst 0, 1) := kq.at kqdX6_begin_38 5 rfl
theorem dX6_begin_49 : decode cX6_begin 49 = .ok (.iastore, 1) := kq.at kqdX6_begin_38 6 rfl
theorem dX6_begin_50 : decode cX6_begin 50 = .ok (.iinc 2 1, 3) := kq.at kqdX6_begin_38 7 rfl
theorem dX6_begin_53 : decode cX6_begin 53 = .ok (.goto (-16), 3) := kq.at kqdX6_begin_38 8 rfl
theorem dX6_begin_56 : decode cX6_begin 56 = .ok (.return_, 1) := kq.at kqdX6_begin_38 9 rfl
theorem kqdX6_add_0 : kq cX6_add [(0, .aload_n 0, 1), (1, .getfield 21, 3), (4, .sipush 1200, 3), (7, .if_icmp .ge 33, 3), (10, .aload_n 0, 1), (11, .getfield 9, 3), (14, .aload_n 0, 1), (15, .getfield 21, 3), (18, .iload_n 1, 1), (19, .iastore, 1), (20, .aload_n 0, 1), (21, .getfield 15, 3), (24, .aload_n 0, 1), (25, .getfield 21, 3), (28, .iload_n 2, 1), (29, .iastore, 1), (30, .aload_n 0, 1), (31, .dup, 1), (32, .getfield 21, 3), (35, .iconst 1, 1), (36, .iadd, 1), (37, .putfield 21, 3), (40, .return_, 1)] = true := by decide +kernel
theorem dX6_add_0 : decode cX6_add 0 = .ok (.aload_n 0, 1) := kq.at kqdX6_add_0 0 rfl
theorem dX6_add_1 : decode cX6_add 1 = .ok (.getfield 21, 3) := kq.at kqdX6_add_0 1 rfl
theorem dX6_add_4 : decode cX6_add 4 = .ok (.sipush 1200, 3) := kq.at kqdX6_add_0 2 rfl
theorem dX6_add_7 : decode cX6_add 7 = .ok (.if_icmp .ge 33, 3) := kq.at kqdX6_add_0 3 rfl
theorem dX6_add_10 : decode cX6_add 10 = .ok (.aload_n 0, 1) := kq.at kqdX6_add_0 4 rfl
theorem dX6_add_11 : decode cX6_add 11 = .ok (.getfield 9, 3) := kq.at kqdX6_add_0 5 rfl
theorem dX6_add_14 : decode cX6_add 14 = .ok (.aload_n 0, 1) := kq.at kqdX6_add_0 6 rfl
theorem dX6_add_15 : decode cX6_add 15 = .ok (.getfield 21, 3) := kq.at kqdX6_add_0 7 rfl
theorem dX6_add_18 : decode cX6_add 18 = .ok (.iload_n 1, 1) := kq.at kqdX6_add_0 8 rfl
theorem dX6_add_19 : decode cX6_add 19 = .ok (.iastore, 1) := kq.at kqdX6_add_0 9 rfl
theorem dX6_add_20 : decode cX6_add 20 = .ok (.aload_n 0, 1) := kq.at kqdX6_add_0 10 rfl
theorem dX6_add_21 : decode cX6_add 21 = .ok (.getfield 15, 3) := kq.at kqdX6_add_0 11 rfl
theorem dX6_add_24 : decode cX6_add 24 = .ok (.aload_n 0, 1) := kq.at kqdX6_add_0 12 rfl
theorem dX6_add_25 : decode cX6_add 25 = .ok (.getfield 21, 3) := kq.at kqdX6_add_0 13 rfl
theorem dX6_add_28 : decode cX6_add 28 = .ok (.iload_n 2, 1) := kq.at kqdX6_add_0 14 rfl
theorem dX6_add_29 : decode cX6_add 29 = .ok (.iastore, 1) := kq.at kqdX6_add_0 15 rfl
theorem dX6_add_30 : decode cX6_add 30 = .ok (.aload_n 0, 1) := kq.at kqdX6_add_0 16 rfl
theorem dX6_add_31 : decode cX6_add 31 = .ok (.dup, 1) := kq.at kqdX6_add_0 17 rfl
theorem dX6_add_32 : decode cX6_add 32 = .ok (.getfield 21, 3) := kq.at kqdX6_add_0 18 rfl
theorem dX6_add_35 : decode cX6_add 35 = .ok (.iconst 1, 1) := kq.at kqdX6_add_0 19 rfl
theorem dX6_add_36 : decode cX6_add 36 = .ok (.iadd, 1) := kq.at kqdX6_add_0 20 rfl
theorem dX6_add_37 : decode cX6_add 37 = .ok (.putfield 21, 3) := kq.at kqdX6_add_0 21 rfl
theorem dX6_add_40 : decode cX6_add 40 = .ok (.return_, 1) := kq.at kqdX6_add_0 22 rfl
theorem kqdX6_addRule_0 : kq cX6_addRule [(0, .iconst 0, 1), (1, .istore_n 3, 1), (2, .iload_n 3, 1), (3, .aload_n 2, 1), (4, .getfield 73, 3), (7, .iload_n 1, 1), (8, .iaload, 1), (9, .if_icmp .ge 20, 3), (12, .aload_n 0, 1), (13, .aload_n 2, 1), (14, .iload_n 1, 1), (15, .iload_n 3, 1), (16, .invokevirtual 78, 3), (19, .iload_n 1, 1), (20, .invokevirtual 51, 3), (23, .iinc 3 1, 3), (26, .goto (-24), 3), (29, .aload_n 0, 1), (30, .getfield 18, 3), (33, .iload_n 1, 1), (34, .dup2, 1), (35, .iaload, 1), (36, .iconst 1, 1), (37, .iadd, 1)] = true := by decide +kernel
theorem dX6_addRule_0 : decode cX6_addRule 0 = .ok (.iconst 0, 1) := kq.at kqdX6_addRule_0 0 rfl
theorem dX6_addRule_1 : decode cX6_addRule 1 = .ok (.istore_n 3, 1) := kq.at kqdX6_addRule_0 1 rfl
theorem dX6_addRule_2 : decode cX6_addRule 2 = .ok (.iload_n 3, 1) := kq.at kqdX6_addRule_0 2 rfl
theorem dX6_addRule_3 : decode cX6_addRule 3 = .ok (.aload_n 2, 1) := kq.at kqdX6_addRule_0 3 rfl
theorem dX6_addRule_4 : decode cX6_addRule 4 = .ok (.getfield 73, 3) := kq.at kqdX6_addRule_0 4 rfl
theorem dX6_addRule_7 : decode cX6_addRule 7 = .ok (.iload_n 1, 1) := kq.at kqdX6_addRule_0 5 rfl
theorem dX6_addRule_8 : decode cX6_addRule 8 = .ok (.iaload, 1) := kq.at kqdX6_addRule_0 6 rfl
theorem dX6_addRule_9 : decode cX6_addRule 9 = .ok (.if_icmp .ge 20, 3) := kq.at kqdX6_addRule_0 7 rfl
theorem dX6_addRule_12 : decode cX6_addRule 12 = .ok (.aload_n 0, 1) := kq.at kqdX6_addRule_0 8 rfl
theorem dX6_addRule_13 : decode cX6_addRule 13 = .ok (.aload_n 2, 1) := kq.at kqdX6_addRule_0 9 rfl
theorem dX6_addRule_14 : decode cX6_addRule 14 = .ok (.iload_n 1, 1) := kq.at kqdX6_addRule_0 10 rfl
theorem dX6_addRule_15 : decode cX6_addRule 15 = .ok (.iload_n 3, 1) := kq.at kqdX6_addRule_0 11 rfl
theorem dX6_addRule_16 : decode cX6_addRule 16 = .ok (.invokevirtual 78, 3) := kq.at kqdX6_addRule_0 12 rfl
theorem dX6_addRule_19 : decode cX6_addRule 19 = .ok (.iload_n 1, 1) := kq.at kqdX6_addRule_0 13 rfl
theorem dX6_addRule_20 : decode cX6_addRule 20 = .ok (.invokevirtual 51, 3) := kq.at kqdX6_addRule_0 14 rfl
theorem dX6_addRule_23 : decode cX6_addRule 23 = .ok (.iinc 3 1, 3) := kq.at kqdX6_addRule_0 15 rfl
theorem dX6_addRule_26 : decode cX6_addRule 26 = .ok (.goto (-24), 3) := kq.at kqdX6_addRule_0 16 rfl
theorem dX6_addRule_29 : decode cX6_addRule 29 = .ok (.aload_n 0, 1) := kq.at kqdX6_addRule_0 17 rfl
theorem dX6_addRule_30 : decode cX6_addRule 30 = .ok (.getfield 18, 3) := kq.at kqdX6_addRule_0 18 rfl
theorem dX6_addRule_33 : decode cX6_addRule 33 = .ok (.iload_n 1, 1) := kq.at kqdX6_addRule_0 19 rfl
theorem dX6_addRule_34 : decode cX6_addRule 34 = .ok (.dup2, 1) := kq.at kqdX6_addRule_0 20 rfl
theorem dX6_addRule_35 : decode cX6_addRule 35 = .ok (.iaload, 1) := kq.at kqdX6_addRule_0 21 rfl
theorem dX6_addRule_36 : decode cX6_addRule 36 = .ok (.iconst 1, 1) := kq.at kqdX6_addRule_0 22 rfl
theorem dX6_addRule_37 : decode cX6_addRule 37 = .ok (.iadd, 1) := kq.at kqdX6_addRule_0 23 rfl
theorem kqdX6_addRule_38 : kq cX6_addRule [(38, .iastore, 1), (39, .return_, 1)] = true := by decide +kernel
theorem dX6_addRule_38 : decode cX6_addRule 38 = .ok (.iastore, 1) := kq.at kqdX6_addRule_38 0 rfl
theorem dX6_addRule_39 : decode cX6_addRule 39 = .ok (.return_, 1) := kq.at kqdX6_addRule_38 1 rfl
theorem kqdX6_faulty_0 : kq cX6_faulty [(0, .aload_n 0, 1), (1, .iload_n 1, 1), (2, .putfield 31, 3), (5, .aload_n 0, 1), (6, .iload_n 2, 1), (7, .putfield 34, 3), (10, .iconst 1, 1), (11, .ireturn, 1)] = true := by decide +kernel
theorem dX6_faulty_0 : decode cX6_faulty 0 = .ok (.aload_n 0, 1) := kq.at kqdX6_faulty_0 0 rfl
theorem dX6_faulty_1 : decode cX6_faulty 1 = .ok (.iload_n 1, 1) := kq.at kqdX6_faulty_0 1 rfl
theorem dX6_faulty_2 : decode cX6_faulty 2 = .ok (.putfield 31, 3) := kq.at kqdX6_faulty_0 2 rfl
theorem dX6_faulty_5 : decode cX6_faulty 5 = .ok (.aload_n 0, 1) := kq.at kqdX6_faulty_0 3 rfl
theorem dX6_faulty_6 : decode cX6_faulty 6 = .ok (.iload_n 2, 1) := kq.at kqdX6_faulty_0 4 rfl
theorem dX6_faulty_7 : decode cX6_faulty 7 = .ok (.putfield 34, 3) := kq.at kqdX6_faulty_0 5 rfl
theorem dX6_faulty_10 : decode cX6_faulty 10 = .ok (.iconst 1, 1) := kq.at kqdX6_faulty_0 6 rfl
theorem dX6_faulty_11 : decode cX6_faulty 11 = .ok (.ireturn, 1) := kq.at kqdX6_faulty_0 7 rfl
theorem kqdX6_setDigit_0 : kq cX6_setDigit [(0, .aload_n 3, 1), (1, .aload_n 1, 1), (2, .iload_n 2, 1), (3, .iaload, 1), (4, .invokestatic 81, 3), (7, .aload_n 0, 1), (8, .getfield 28, 3), (11, .invokevirtual 85, 3), (14, .istore 4, 2), (16, .aload_n 3, 1), (17, .getfield 88, 3), (20, .iconst 1, 1), (21, .iaload, 1), (22, .ifCond .eq 9, 3), (25, .iload 4, 2), (27, .iconst (-1), 1), (28, .if_icmp .ne 10, 3), (31, .aload_n 0, 1), (32, .iconst 4, 1), (33, .iload_n 2, 1), (34, .invokevirtual 69, 3), (37, .ireturn, 1), (38, .iload_n 2, 1), (39, .ifCond .eq 14, 3)] = true := by decide +kernel
theorem dX6_setDigit_0 : decode cX6_setDigit 0 = .ok (.aload_n 3, 1) := kq.at kqdX6_setDigit_0 0 rfl
theorem dX6_setDigit_1 : decode cX6_setDigit 1 = .ok (.aload_n 1, 1) := kq.at kqdX6_setDigit_0 1 rfl
theorem dX6_setDigit_2 : decode cX6_setDigit 2 = .ok (.iload_n 2, 1) := kq.at kqdX6_setDigit_0 2 rfl
theorem dX6_setDigit_3 : decode cX6_setDigit 3 = .ok (.iaload, 1) := kq.at kqdX6_setDigit_0 3 rfl
theorem dX6_setDigit_4 : decode cX6_setDigit 4 = .ok (.invokestatic 81, 3) := kq.at kqdX6_setDigit_0 4 rfl
theorem dX6_setDigit_7 : decode cX6_setDigit 7 = .ok (.aload_n 0, 1) := kq.at kqdX6_setDigit_0 5 rfl
theorem dX6_setDigit_8 : decode cX6_setDigit 8 = .ok (.getfield 28, 3) := kq.at kqdX6_setDigit_0 6 rfl
theorem dX6_setDigit_11 : decode cX6_setDigit 11 = .ok (.invokevirtual 85, 3) := kq.at kqdX6_setDigit_0 7 rfl
theorem dX6_setDigit_14 : decode cX6_setDigit 14 = .ok (.istore 4, 2) := kq.at kqdX6_setDigit_0 8 rfl
theorem dX6_setDigit_16 : decode cX6_setDigit 16 = .ok (.aload_n 3, 1) := kq.at kqdX6_setDigit_0 9 rfl
theorem dX6_setDigit_17 : decode cX6_setDigit 17 = .ok (.getfield 88, 3) := kq.at kqdX6_setDigit_0 10 rfl
theorem dX6_setDigit_20 : decode cX6_setDigit 20 = .ok (.iconst 1, 1) := kq.at kqdX6_setDigit_0 11 rfl
theorem dX6_setDigit_21 : decode cX6_setDigit 21 = .ok (.iaload, 1) := kq.at kqdX6_setDigit_0 12 rfl
theorem dX6_setDigit_22 : decode cX6_setDigit 22 = .ok (.ifCond .eq 9, 3) := kq.at kqdX6_setDigit_0 13 rfl
theorem dX6_setDigit_25 : decode cX6_setDigit 25 = .ok (.iload 4, 2) := kq.at kqdX6_setDigit_0 14 rfl
theorem dX6_setDigit_27 : decode cX6_setDigit 27 = .ok (.iconst (-1), 1) := kq.at kqdX6_setDigit_0 15 rfl
theorem dX6_setDigit_28 : decode cX6_setDigit 28 = .ok (.if_icmp .ne 10, 3) := kq.at kqdX6_setDigit_0 16 rfl
theorem dX6_setDigit_31 : decode cX6_setDigit 31 = .ok (.aload_n 0, 1) := kq.at kqdX6_setDigit_0 17 rfl
theorem dX6_setDigit_32 : decode cX6_setDigit 32 = .ok (.iconst 4, 1) := kq.at kqdX6_setDigit_0 18 rfl
theorem dX6_setDigit_33 : decode cX6_setDigit 33 = .ok (.iload_n 2, 1) := kq.at kqdX6_setDigit_0 19 rfl
theorem dX6_setDigit_34 : decode cX6_setDigit 34 = .ok (.invokevirtual 69, 3) := kq.at kqdX6_setDigit_0 20 rfl
theorem dX6_setDigit_37 : decode cX6_setDigit 37 = .ok (.ireturn, 1) := kq.at kqdX6_setDigit_0 21 rfl
theorem dX6_setDigit_38 : decode cX6_setDigit 38 = .ok (.iload_n 2, 1) := kq.at kqdX6_setDigit_0 22 rfl
theorem dX6_setDigit_39 : decode cX6_setDigit 39 = .ok (.ifCond .eq 14, 3) := kq.at kqdX6_setDigit_0 23 rfl
theorem kqdX6_setDigit_42 : kq cX6_setDigit [(42, .aload_n 1, 1), (43, .iload_n 2, 1), (44, .iconst 1, 1)] = true := by decide +kernel
theorem dX6_setDigit_42 : decode cX6_setDigit 42 = .ok (.aload_n 1, 1) := kq.at kqdX6_setDigit_42 0 rfl
theorem dX6_setDigit_43 : decode cX6_setDigit 43 = .ok (.iload_n 2, 1) := kq.at kqdX6_setDigit_42 1 rfl
theorem dX6_setDigit_44 : decode cX6_setDigit 44 = .ok (.iconst 1, 1) := kq.at kqdX6_setDigit_42 2 rfl
