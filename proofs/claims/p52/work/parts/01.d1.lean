theorem kqdX6_setDigit_45 : kq cX6_setDigit [(45, .isub, 1), (46, .iaload, 1), (47, .invokestatic 55, 3), (50, .ifCond .ne 14, 3), (53, .aload_n 0, 1), (54, .aload_n 3, 1), (55, .getfield 88, 3), (58, .iconst 1, 1), (59, .iaload, 1), (60, .iconst (-1), 1), (61, .invokevirtual 51, 3), (64, .aload_n 0, 1), (65, .iload 4, 2), (67, .aload_n 3, 1), (68, .invokevirtual 91, 3), (71, .iconst 1, 1), (72, .ireturn, 1)] = true := by decide +kernel
theorem dX6_setDigit_45 : decode cX6_setDigit 45 = .ok (.isub, 1) := kq.at kqdX6_setDigit_45 0 rfl
theorem dX6_setDigit_46 : decode cX6_setDigit 46 = .ok (.iaload, 1) := kq.at kqdX6_setDigit_45 1 rfl
theorem dX6_setDigit_47 : decode cX6_setDigit 47 = .ok (.invokestatic 55, 3) := kq.at kqdX6_setDigit_45 2 rfl
theorem dX6_setDigit_50 : decode cX6_setDigit 50 = .ok (.ifCond .ne 14, 3) := kq.at kqdX6_setDigit_45 3 rfl
theorem dX6_setDigit_53 : decode cX6_setDigit 53 = .ok (.aload_n 0, 1) := kq.at kqdX6_setDigit_45 4 rfl
theorem dX6_setDigit_54 : decode cX6_setDigit 54 = .ok (.aload_n 3, 1) := kq.at kqdX6_setDigit_45 5 rfl
theorem dX6_setDigit_55 : decode cX6_setDigit 55 = .ok (.getfield 88, 3) := kq.at kqdX6_setDigit_45 6 rfl
theorem dX6_setDigit_58 : decode cX6_setDigit 58 = .ok (.iconst 1, 1) := kq.at kqdX6_setDigit_45 7 rfl
theorem dX6_setDigit_59 : decode cX6_setDigit 59 = .ok (.iaload, 1) := kq.at kqdX6_setDigit_45 8 rfl
theorem dX6_setDigit_60 : decode cX6_setDigit 60 = .ok (.iconst (-1), 1) := kq.at kqdX6_setDigit_45 9 rfl
theorem dX6_setDigit_61 : decode cX6_setDigit 61 = .ok (.invokevirtual 51, 3) := kq.at kqdX6_setDigit_45 10 rfl
theorem dX6_setDigit_64 : decode cX6_setDigit 64 = .ok (.aload_n 0, 1) := kq.at kqdX6_setDigit_45 11 rfl
theorem dX6_setDigit_65 : decode cX6_setDigit 65 = .ok (.iload 4, 2) := kq.at kqdX6_setDigit_45 12 rfl
theorem dX6_setDigit_67 : decode cX6_setDigit 67 = .ok (.aload_n 3, 1) := kq.at kqdX6_setDigit_45 13 rfl
theorem dX6_setDigit_68 : decode cX6_setDigit 68 = .ok (.invokevirtual 91, 3) := kq.at kqdX6_setDigit_45 14 rfl
theorem dX6_setDigit_71 : decode cX6_setDigit 71 = .ok (.iconst 1, 1) := kq.at kqdX6_setDigit_45 15 rfl
theorem dX6_setDigit_72 : decode cX6_setDigit 72 = .ok (.ireturn, 1) := kq.at kqdX6_setDigit_45 16 rfl
theorem kqdX6_setLetters_0 : kq cX6_setLetters [(0, .iload_n 3, 1), (1, .aload_n 0, 1), (2, .getfield 40, 3), (5, .if_icmp .lt 18, 3), (8, .aload_n 0, 1), (9, .iload_n 3, 1), (10, .putfield 37, 3), (13, .aload_n 0, 1), (14, .aload_n 1, 1), (15, .iload_n 2, 1), (16, .iload_n 3, 1), (17, .invokestatic 95, 3), (20, .putfield 40, 3), (23, .aload 4, 2), (25, .aload_n 1, 1), (26, .aload_n 0, 1), (27, .getfield 37, 3), (30, .aload_n 0, 1), (31, .getfield 40, 3), (34, .iload_n 3, 1), (35, .aload_n 0, 1), (36, .getfield 28, 3), (39, .invokevirtual 99, 3), (42, .istore 5, 2)] = true := by decide +kernel
theorem dX6_setLetters_0 : decode cX6_setLetters 0 = .ok (.iload_n 3, 1) := kq.at kqdX6_setLetters_0 0 rfl
theorem dX6_setLetters_1 : decode cX6_setLetters 1 = .ok (.aload_n 0, 1) := kq.at kqdX6_setLetters_0 1 rfl
theorem dX6_setLetters_2 : decode cX6_setLetters 2 = .ok (.getfield 40, 3) := kq.at kqdX6_setLetters_0 2 rfl
theorem dX6_setLetters_5 : decode cX6_setLetters 5 = .ok (.if_icmp .lt 18, 3) := kq.at kqdX6_setLetters_0 3 rfl
theorem dX6_setLetters_8 : decode cX6_setLetters 8 = .ok (.aload_n 0, 1) := kq.at kqdX6_setLetters_0 4 rfl
theorem dX6_setLetters_9 : decode cX6_setLetters 9 = .ok (.iload_n 3, 1) := kq.at kqdX6_setLetters_0 5 rfl
theorem dX6_setLetters_10 : decode cX6_setLetters 10 = .ok (.putfield 37, 3) := kq.at kqdX6_setLetters_0 6 rfl
theorem dX6_setLetters_13 : decode cX6_setLetters 13 = .ok (.aload_n 0, 1) := kq.at kqdX6_setLetters_0 7 rfl
theorem dX6_setLetters_14 : decode cX6_setLetters 14 = .ok (.aload_n 1, 1) := kq.at kqdX6_setLetters_0 8 rfl
theorem dX6_setLetters_15 : decode cX6_setLetters 15 = .ok (.iload_n 2, 1) := kq.at kqdX6_setLetters_0 9 rfl
theorem dX6_setLetters_16 : decode cX6_setLetters 16 = .ok (.iload_n 3, 1) := kq.at kqdX6_setLetters_0 10 rfl
theorem dX6_setLetters_17 : decode cX6_setLetters 17 = .ok (.invokestatic 95, 3) := kq.at kqdX6_setLetters_0 11 rfl
theorem dX6_setLetters_20 : decode cX6_setLetters 20 = .ok (.putfield 40, 3) := kq.at kqdX6_setLetters_0 12 rfl
theorem dX6_setLetters_23 : decode cX6_setLetters 23 = .ok (.aload 4, 2) := kq.at kqdX6_setLetters_0 13 rfl
theorem dX6_setLetters_25 : decode cX6_setLetters 25 = .ok (.aload_n 1, 1) := kq.at kqdX6_setLetters_0 14 rfl
theorem dX6_setLetters_26 : decode cX6_setLetters 26 = .ok (.aload_n 0, 1) := kq.at kqdX6_setLetters_0 15 rfl
theorem dX6_setLetters_27 : decode cX6_setLetters 27 = .ok (.getfield 37, 3) := kq.at kqdX6_setLetters_0 16 rfl
theorem dX6_setLetters_30 : decode cX6_setLetters 30 = .ok (.aload_n 0, 1) := kq.at kqdX6_setLetters_0 17 rfl
theorem dX6_setLetters_31 : decode cX6_setLetters 31 = .ok (.getfield 40, 3) := kq.at kqdX6_setLetters_0 18 rfl
theorem dX6_setLetters_34 : decode cX6_setLetters 34 = .ok (.iload_n 3, 1) := kq.at kqdX6_setLetters_0 19 rfl
theorem dX6_setLetters_35 : decode cX6_setLetters 35 = .ok (.aload_n 0, 1) := kq.at kqdX6_setLetters_0 20 rfl
theorem dX6_setLetters_36 : decode cX6_setLetters 36 = .ok (.getfield 28, 3) := kq.at kqdX6_setLetters_0 21 rfl
theorem dX6_setLetters_39 : decode cX6_setLetters 39 = .ok (.invokevirtual 99, 3) := kq.at kqdX6_setLetters_0 22 rfl
theorem dX6_setLetters_42 : decode cX6_setLetters 42 = .ok (.istore 5, 2) := kq.at kqdX6_setLetters_0 23 rfl
theorem kqdX6_setLetters_44 : kq cX6_setLetters [(44, .iload 5, 2), (46, .iconst (-1), 1), (47, .if_icmp .ne 10, 3), (50, .aload_n 0, 1), (51, .iconst 3, 1), (52, .iload_n 3, 1), (53, .invokevirtual 69, 3), (56, .ireturn, 1), (57, .aload_n 1, 1), (58, .iload_n 3, 1), (59, .iaload, 1), (60, .invokestatic 103, 3), (63, .ifCond .eq 32, 3), (66, .aload 4, 2), (68, .getfield 88, 3), (71, .iconst 0, 1), (72, .iaload, 1), (73, .ifCond .ne 10, 3), (76, .aload_n 0, 1), (77, .iconst 5, 1), (78, .iload_n 3, 1), (79, .invokevirtual 69, 3), (82, .ireturn, 1), (83, .aload_n 0, 1)] = true := by decide +kernel
theorem dX6_setLetters_44 : decode cX6_setLetters 44 = .ok (.iload 5, 2) := kq.at kqdX6_setLetters_44 0 rfl
theorem dX6_setLetters_46 : decode cX6_setLetters 46 = .ok (.iconst (-1), 1) := kq.at kqdX6_setLetters_44 1 rfl
theorem dX6_setLetters_47 : decode cX6_setLetters 47 = .ok (.if_icmp .ne 10, 3) := kq.at kqdX6_setLetters_44 2 rfl
theorem dX6_setLetters_50 : decode cX6_setLetters 50 = .ok (.aload_n 0, 1) := kq.at kqdX6_setLetters_44 3 rfl
theorem dX6_setLetters_51 : decode cX6_setLetters 51 = .ok (.iconst 3, 1) := kq.at kqdX6_setLetters_44 4 rfl
theorem dX6_setLetters_52 : decode cX6_setLetters 52 = .ok (.iload_n 3, 1) := kq.at kqdX6_setLetters_44 5 rfl
theorem dX6_setLetters_53 : decode cX6_setLetters 53 = .ok (.invokevirtual 69, 3) := kq.at kqdX6_setLetters_44 6 rfl
theorem dX6_setLetters_56 : decode cX6_setLetters 56 = .ok (.ireturn, 1) := kq.at kqdX6_setLetters_44 7 rfl
theorem dX6_setLetters_57 : decode cX6_setLetters 57 = .ok (.aload_n 1, 1) := kq.at kqdX6_setLetters_44 8 rfl
theorem dX6_setLetters_58 : decode cX6_setLetters 58 = .ok (.iload_n 3, 1) := kq.at kqdX6_setLetters_44 9 rfl
theorem dX6_setLetters_59 : decode cX6_setLetters 59 = .ok (.iaload, 1) := kq.at kqdX6_setLetters_44 10 rfl
theorem dX6_setLetters_60 : decode cX6_setLetters 60 = .ok (.invokestatic 103, 3) := kq.at kqdX6_setLetters_44 11 rfl
theorem dX6_setLetters_63 : decode cX6_setLetters 63 = .ok (.ifCond .eq 32, 3) := kq.at kqdX6_setLetters_44 12 rfl
theorem dX6_setLetters_66 : decode cX6_setLetters 66 = .ok (.aload 4, 2) := kq.at kqdX6_setLetters_44 13 rfl
theorem dX6_setLetters_68 : decode cX6_setLetters 68 = .ok (.getfield 88, 3) := kq.at kqdX6_setLetters_44 14 rfl
theorem dX6_setLetters_71 : decode cX6_setLetters 71 = .ok (.iconst 0, 1) := kq.at kqdX6_setLetters_44 15 rfl
theorem dX6_setLetters_72 : decode cX6_setLetters 72 = .ok (.iaload, 1) := kq.at kqdX6_setLetters_44 16 rfl
theorem dX6_setLetters_73 : decode cX6_setLetters 73 = .ok (.ifCond .ne 10, 3) := kq.at kqdX6_setLetters_44 17 rfl
theorem dX6_setLetters_76 : decode cX6_setLetters 76 = .ok (.aload_n 0, 1) := kq.at kqdX6_setLetters_44 18 rfl
theorem dX6_setLetters_77 : decode cX6_setLetters 77 = .ok (.iconst 5, 1) := kq.at kqdX6_setLetters_44 19 rfl
theorem dX6_setLetters_78 : decode cX6_setLetters 78 = .ok (.iload_n 3, 1) := kq.at kqdX6_setLetters_44 20 rfl
theorem dX6_setLetters_79 : decode cX6_setLetters 79 = .ok (.invokevirtual 69, 3) := kq.at kqdX6_setLetters_44 21 rfl
theorem dX6_setLetters_82 : decode cX6_setLetters 82 = .ok (.ireturn, 1) := kq.at kqdX6_setLetters_44 22 rfl
theorem dX6_setLetters_83 : decode cX6_setLetters 83 = .ok (.aload_n 0, 1) := kq.at kqdX6_setLetters_44 23 rfl
theorem kqdX6_setLetters_84 : kq cX6_setLetters [(84, .aload 4, 2), (86, .getfield 88, 3), (89, .iconst 0, 1), (90, .iaload, 1), (91, .iconst (-1), 1), (92, .invokevirtual 51, 3), (95, .aload_n 0, 1), (96, .iload 5, 2), (98, .aload 4, 2), (100, .invokevirtual 91, 3), (103, .aload_n 0, 1), (104, .dup, 1), (105, .getfield 25, 3), (108, .aload 4, 2), (110, .getfield 73, 3), (113, .iload 5, 2), (115, .iaload, 1), (116, .iadd, 1), (117, .putfield 25, 3), (120, .aload 4, 2), (122, .getfield 106, 3), (125, .iload 5, 2), (127, .iaload, 1), (128, .ireturn, 1)] = true := by decide +kernel
theorem dX6_setLetters_84 : decode cX6_setLetters 84 = .ok (.aload 4, 2) := kq.at kqdX6_setLetters_84 0 rfl
theorem dX6_setLetters_86 : decode cX6_setLetters 86 = .ok (.getfield 88, 3) := kq.at kqdX6_setLetters_84 1 rfl
theorem dX6_setLetters_89 : decode cX6_setLetters 89 = .ok (.iconst 0, 1) := kq.at kqdX6_setLetters_84 2 rfl
theorem dX6_setLetters_90 : decode cX6_setLetters 90 = .ok (.iaload, 1) := kq.at kqdX6_setLetters_84 3 rfl
theorem dX6_setLetters_91 : decode cX6_setLetters 91 = .ok (.iconst (-1), 1) := kq.at kqdX6_setLetters_84 4 rfl
theorem dX6_setLetters_92 : decode cX6_setLetters 92 = .ok (.invokevirtual 51, 3) := kq.at kqdX6_setLetters_84 5 rfl
theorem dX6_setLetters_95 : decode cX6_setLetters 95 = .ok (.aload_n 0, 1) := kq.at kqdX6_setLetters_84 6 rfl
theorem dX6_setLetters_96 : decode cX6_setLetters 96 = .ok (.iload 5, 2) := kq.at kqdX6_setLetters_84 7 rfl
theorem dX6_setLetters_98 : decode cX6_setLetters 98 = .ok (.aload 4, 2) := kq.at kqdX6_setLetters_84 8 rfl
theorem dX6_setLetters_100 : decode cX6_setLetters 100 = .ok (.invokevirtual 91, 3) := kq.at kqdX6_setLetters_84 9 rfl
theorem dX6_setLetters_103 : decode cX6_setLetters 103 = .ok (.aload_n 0, 1) := kq.at kqdX6_setLetters_84 10 rfl
theorem dX6_setLetters_104 : decode cX6_setLetters 104 = .ok (.dup, 1) := kq.at kqdX6_setLetters_84 11 rfl
theorem dX6_setLetters_105 : decode cX6_setLetters 105 = .ok (.getfield 25, 3) := kq.at kqdX6_setLetters_84 12 rfl
theorem dX6_setLetters_108 : decode cX6_setLetters 108 = .ok (.aload 4, 2) := kq.at kqdX6_setLetters_84 13 rfl
theorem dX6_setLetters_110 : decode cX6_setLetters 110 = .ok (.getfield 73, 3) := kq.at kqdX6_setLetters_84 14 rfl
theorem dX6_setLetters_113 : decode cX6_setLetters 113 = .ok (.iload 5, 2) := kq.at kqdX6_setLetters_84 15 rfl
theorem dX6_setLetters_115 : decode cX6_setLetters 115 = .ok (.iaload, 1) := kq.at kqdX6_setLetters_84 16 rfl
theorem dX6_setLetters_116 : decode cX6_setLetters 116 = .ok (.iadd, 1) := kq.at kqdX6_setLetters_84 17 rfl
theorem dX6_setLetters_117 : decode cX6_setLetters 117 = .ok (.putfield 25, 3) := kq.at kqdX6_setLetters_84 18 rfl
theorem dX6_setLetters_120 : decode cX6_setLetters 120 = .ok (.aload 4, 2) := kq.at kqdX6_setLetters_84 19 rfl
theorem dX6_setLetters_122 : decode cX6_setLetters 122 = .ok (.getfield 106, 3) := kq.at kqdX6_setLetters_84 20 rfl
theorem dX6_setLetters_125 : decode cX6_setLetters 125 = .ok (.iload 5, 2) := kq.at kqdX6_setLetters_84 21 rfl
theorem dX6_setLetters_127 : decode cX6_setLetters 127 = .ok (.iaload, 1) := kq.at kqdX6_setLetters_84 22 rfl
theorem dX6_setLetters_128 : decode cX6_setLetters 128 = .ok (.ireturn, 1) := kq.at kqdX6_setLetters_84 23 rfl
theorem kqdX6_usedInAll_0 : kq cX6_usedInAll [(0, .iconst 0, 1), (1, .istore_n 1, 1), (2, .iconst 0, 1), (3, .istore_n 2, 1), (4, .iload_n 2, 1), (5, .bipush 24, 2), (7, .if_icmp .ge 18, 3), (10, .iload_n 1, 1), (11, .aload_n 0, 1), (12, .getfield 18, 3), (15, .iload_n 2, 1), (16, .iaload, 1), (17, .iadd, 1), (18, .istore_n 1, 1), (19, .iinc 2 1, 3), (22, .goto (-18), 3), (25, .iload_n 1, 1), (26, .ireturn, 1)] = true := by decide +kernel
theorem dX6_usedInAll_0 : decode cX6_usedInAll 0 = .ok (.iconst 0, 1) := kq.at kqdX6_usedInAll_0 0 rfl
theorem dX6_usedInAll_1 : decode cX6_usedInAll 1 = .ok (.istore_n 1, 1) := kq.at kqdX6_usedInAll_0 1 rfl
theorem dX6_usedInAll_2 : decode cX6_usedInAll 2 = .ok (.iconst 0, 1) := kq.at kqdX6_usedInAll_0 2 rfl
theorem dX6_usedInAll_3 : decode cX6_usedInAll 3 = .ok (.istore_n 2, 1) := kq.at kqdX6_usedInAll_0 3 rfl
theorem dX6_usedInAll_4 : decode cX6_usedInAll 4 = .ok (.iload_n 2, 1) := kq.at kqdX6_usedInAll_0 4 rfl
theorem dX6_usedInAll_5 : decode cX6_usedInAll 5 = .ok (.bipush 24, 2) := kq.at kqdX6_usedInAll_0 5 rfl
theorem dX6_usedInAll_7 : decode cX6_usedInAll 7 = .ok (.if_icmp .ge 18, 3) := kq.at kqdX6_usedInAll_0 6 rfl
theorem dX6_usedInAll_10 : decode cX6_usedInAll 10 = .ok (.iload_n 1, 1) := kq.at kqdX6_usedInAll_0 7 rfl
theorem dX6_usedInAll_11 : decode cX6_usedInAll 11 = .ok (.aload_n 0, 1) := kq.at kqdX6_usedInAll_0 8 rfl
theorem dX6_usedInAll_12 : decode cX6_usedInAll 12 = .ok (.getfield 18, 3) := kq.at kqdX6_usedInAll_0 9 rfl
theorem dX6_usedInAll_15 : decode cX6_usedInAll 15 = .ok (.iload_n 2, 1) := kq.at kqdX6_usedInAll_0 10 rfl
theorem dX6_usedInAll_16 : decode cX6_usedInAll 16 = .ok (.iaload, 1) := kq.at kqdX6_usedInAll_0 11 rfl
theorem dX6_usedInAll_17 : decode cX6_usedInAll 17 = .ok (.iadd, 1) := kq.at kqdX6_usedInAll_0 12 rfl
theorem dX6_usedInAll_18 : decode cX6_usedInAll 18 = .ok (.istore_n 1, 1) := kq.at kqdX6_usedInAll_0 13 rfl
theorem dX6_usedInAll_19 : decode cX6_usedInAll 19 = .ok (.iinc 2 1, 3) := kq.at kqdX6_usedInAll_0 14 rfl
theorem dX6_usedInAll_22 : decode cX6_usedInAll 22 = .ok (.goto (-18), 3) := kq.at kqdX6_usedInAll_0 15 rfl
theorem dX6_usedInAll_25 : decode cX6_usedInAll 25 = .ok (.iload_n 1, 1) := kq.at kqdX6_usedInAll_0 16 rfl
theorem dX6_usedInAll_26 : decode cX6_usedInAll 26 = .ok (.ireturn, 1) := kq.at kqdX6_usedInAll_0 17 rfl
theorem kqdX6_dotsOf_0 : kq cX6_dotsOf [(0, .iconst 0, 1), (1, .istore_n 3, 1), (2, .iload_n 1, 1), (3, .istore 4, 2), (5, .iload 4, 2), (7, .iload_n 2, 1), (8, .if_icmp .ge 22, 3), (11, .iload_n 3, 1), (12, .aload_n 0, 1), (13, .getfield 9, 3), (16, .iload 4, 2), (18, .iaload, 1), (19, .invokestatic 109, 3), (22, .iadd, 1), (23, .istore_n 3, 1), (24, .iinc 4 1, 3), (27, .goto (-22), 3), (30, .iload_n 3, 1), (31, .ireturn, 1)] = true := by decide +kernel
theorem dX6_dotsOf_0 : decode cX6_dotsOf 0 = .ok (.iconst 0, 1) := kq.at kqdX6_dotsOf_0 0 rfl
theorem dX6_dotsOf_1 : decode cX6_dotsOf 1 = .ok (.istore_n 3, 1) := kq.at kqdX6_dotsOf_0 1 rfl
theorem dX6_dotsOf_2 : decode cX6_dotsOf 2 = .ok (.iload_n 1, 1) := kq.at kqdX6_dotsOf_0 2 rfl
theorem dX6_dotsOf_3 : decode cX6_dotsOf 3 = .ok (.istore 4, 2) := kq.at kqdX6_dotsOf_0 3 rfl
theorem dX6_dotsOf_5 : decode cX6_dotsOf 5 = .ok (.iload 4, 2) := kq.at kqdX6_dotsOf_0 4 rfl
theorem dX6_dotsOf_7 : decode cX6_dotsOf 7 = .ok (.iload_n 2, 1) := kq.at kqdX6_dotsOf_0 5 rfl
theorem dX6_dotsOf_8 : decode cX6_dotsOf 8 = .ok (.if_icmp .ge 22, 3) := kq.at kqdX6_dotsOf_0 6 rfl
theorem dX6_dotsOf_11 : decode cX6_dotsOf 11 = .ok (.iload_n 3, 1) := kq.at kqdX6_dotsOf_0 7 rfl
theorem dX6_dotsOf_12 : decode cX6_dotsOf 12 = .ok (.aload_n 0, 1) := kq.at kqdX6_dotsOf_0 8 rfl
theorem dX6_dotsOf_13 : decode cX6_dotsOf 13 = .ok (.getfield 9, 3) := kq.at kqdX6_dotsOf_0 9 rfl
theorem dX6_dotsOf_16 : decode cX6_dotsOf 16 = .ok (.iload 4, 2) := kq.at kqdX6_dotsOf_0 10 rfl
theorem dX6_dotsOf_18 : decode cX6_dotsOf 18 = .ok (.iaload, 1) := kq.at kqdX6_dotsOf_0 11 rfl
theorem dX6_dotsOf_19 : decode cX6_dotsOf 19 = .ok (.invokestatic 109, 3) := kq.at kqdX6_dotsOf_0 12 rfl
theorem dX6_dotsOf_22 : decode cX6_dotsOf 22 = .ok (.iadd, 1) := kq.at kqdX6_dotsOf_0 13 rfl
theorem dX6_dotsOf_23 : decode cX6_dotsOf 23 = .ok (.istore_n 3, 1) := kq.at kqdX6_dotsOf_0 14 rfl
theorem dX6_dotsOf_24 : decode cX6_dotsOf 24 = .ok (.iinc 4 1, 3) := kq.at kqdX6_dotsOf_0 15 rfl
theorem dX6_dotsOf_27 : decode cX6_dotsOf 27 = .ok (.goto (-22), 3) := kq.at kqdX6_dotsOf_0 16 rfl
theorem dX6_dotsOf_30 : decode cX6_dotsOf 30 = .ok (.iload_n 3, 1) := kq.at kqdX6_dotsOf_0 17 rfl
theorem dX6_dotsOf_31 : decode cX6_dotsOf 31 = .ok (.ireturn, 1) := kq.at kqdX6_dotsOf_0 18 rfl
theorem kqdX6_densest_0 : kq cX6_densest [(0, .iload_n 1, 1), (1, .aload_n 0, 1), (2, .getfield 21, 3), (5, .if_icmp .le 5, 3), (8, .iconst (-1), 1), (9, .ireturn, 1), (10, .aload_n 0, 1), (11, .iconst 0, 1), (12, .iload_n 1, 1), (13, .invokevirtual 114, 3), (16, .istore_n 2, 1), (17, .iload_n 2, 1), (18, .istore_n 3, 1), (19, .iload_n 1, 1), (20, .istore 4, 2), (22, .iload 4, 2), (24, .aload_n 0, 1), (25, .getfield 21, 3), (28, .if_icmp .ge 41, 3), (31, .iload_n 2, 1), (32, .aload_n 0, 1), (33, .getfield 9, 3), (36, .iload 4, 2), (38, .iaload, 1)] = true := by decide +kernel
theorem dX6_densest_0 : decode cX6_densest 0 = .ok (.iload_n 1, 1) := kq.at kqdX6_densest_0 0 rfl
theorem dX6_densest_1 : decode cX6_densest 1 = .ok (.aload_n 0, 1) := kq.at kqdX6_densest_0 1 rfl
theorem dX6_densest_2 : decode cX6_densest 2 = .ok (.getfield 21, 3) := kq.at kqdX6_densest_0 2 rfl
theorem dX6_densest_5 : decode cX6_densest 5 = .ok (.if_icmp .le 5, 3) := kq.at kqdX6_densest_0 3 rfl
theorem dX6_densest_8 : decode cX6_densest 8 = .ok (.iconst (-1), 1) := kq.at kqdX6_densest_0 4 rfl
theorem dX6_densest_9 : decode cX6_densest 9 = .ok (.ireturn, 1) := kq.at kqdX6_densest_0 5 rfl
theorem dX6_densest_10 : decode cX6_densest 10 = .ok (.aload_n 0, 1) := kq.at kqdX6_densest_0 6 rfl
theorem dX6_densest_11 : decode cX6_densest 11 = .ok (.iconst 0, 1) := kq.at kqdX6_densest_0 7 rfl
theorem dX6_densest_12 : decode cX6_densest 12 = .ok (.iload_n 1, 1) := kq.at kqdX6_densest_0 8 rfl
theorem dX6_densest_13 : decode cX6_densest 13 = .ok (.invokevirtual 114, 3) := kq.at kqdX6_densest_0 9 rfl
theorem dX6_densest_16 : decode cX6_densest 16 = .ok (.istore_n 2, 1) := kq.at kqdX6_densest_0 10 rfl
theorem dX6_densest_17 : decode cX6_densest 17 = .ok (.iload_n 2, 1) := kq.at kqdX6_densest_0 11 rfl
theorem dX6_densest_18 : decode cX6_densest 18 = .ok (.istore_n 3, 1) := kq.at kqdX6_densest_0 12 rfl
theorem dX6_densest_19 : decode cX6_densest 19 = .ok (.iload_n 1, 1) := kq.at kqdX6_densest_0 13 rfl
theorem dX6_densest_20 : decode cX6_densest 20 = .ok (.istore 4, 2) := kq.at kqdX6_densest_0 14 rfl
theorem dX6_densest_22 : decode cX6_densest 22 = .ok (.iload 4, 2) := kq.at kqdX6_densest_0 15 rfl
theorem dX6_densest_24 : decode cX6_densest 24 = .ok (.aload_n 0, 1) := kq.at kqdX6_densest_0 16 rfl
theorem dX6_densest_25 : decode cX6_densest 25 = .ok (.getfield 21, 3) := kq.at kqdX6_densest_0 17 rfl
theorem dX6_densest_28 : decode cX6_densest 28 = .ok (.if_icmp .ge 41, 3) := kq.at kqdX6_densest_0 18 rfl
theorem dX6_densest_31 : decode cX6_densest 31 = .ok (.iload_n 2, 1) := kq.at kqdX6_densest_0 19 rfl
theorem dX6_densest_32 : decode cX6_densest 32 = .ok (.aload_n 0, 1) := kq.at kqdX6_densest_0 20 rfl
theorem dX6_densest_33 : decode cX6_densest 33 = .ok (.getfield 9, 3) := kq.at kqdX6_densest_0 21 rfl
theorem dX6_densest_36 : decode cX6_densest 36 = .ok (.iload 4, 2) := kq.at kqdX6_densest_0 22 rfl
theorem dX6_densest_38 : decode cX6_densest 38 = .ok (.iaload, 1) := kq.at kqdX6_densest_0 23 rfl
theorem kqdX6_densest_39 : kq cX6_densest [(39, .invokestatic 109, 3), (42, .aload_n 0, 1), (43, .getfield 9, 3), (46, .iload 4, 2), (48, .iload_n 1, 1), (49, .isub, 1), (50, .iaload, 1), (51, .invokestatic 109, 3), (54, .isub, 1), (55, .iadd, 1), (56, .istore_n 2, 1), (57, .iload_n 3, 1), (58, .iload_n 2, 1), (59, .invokestatic 117, 3), (62, .istore_n 3, 1), (63, .iinc 4 1, 3), (66, .goto (-44), 3), (69, .iload_n 3, 1), (70, .ireturn, 1)] = true := by decide +kernel
theorem dX6_densest_39 : decode cX6_densest 39 = .ok (.invokestatic 109, 3) := kq.at kqdX6_densest_39 0 rfl
theorem dX6_densest_42 : decode cX6_densest 42 = .ok (.aload_n 0, 1) := kq.at kqdX6_densest_39 1 rfl
theorem dX6_densest_43 : decode cX6_densest 43 = .ok (.getfield 9, 3) := kq.at kqdX6_densest_39 2 rfl
theorem dX6_densest_46 : decode cX6_densest 46 = .ok (.iload 4, 2) := kq.at kqdX6_densest_39 3 rfl
theorem dX6_densest_48 : decode cX6_densest 48 = .ok (.iload_n 1, 1) := kq.at kqdX6_densest_39 4 rfl
theorem dX6_densest_49 : decode cX6_densest 49 = .ok (.isub, 1) := kq.at kqdX6_densest_39 5 rfl
theorem dX6_densest_50 : decode cX6_densest 50 = .ok (.iaload, 1) := kq.at kqdX6_densest_39 6 rfl
theorem dX6_densest_51 : decode cX6_densest 51 = .ok (.invokestatic 109, 3) := kq.at kqdX6_densest_39 7 rfl
theorem dX6_densest_54 : decode cX6_densest 54 = .ok (.isub, 1) := kq.at kqdX6_densest_39 8 rfl
theorem dX6_densest_55 : decode cX6_densest 55 = .ok (.iadd, 1) := kq.at kqdX6_densest_39 9 rfl
theorem dX6_densest_56 : decode cX6_densest 56 = .ok (.istore_n 2, 1) := kq.at kqdX6_densest_39 10 rfl
theorem dX6_densest_57 : decode cX6_densest 57 = .ok (.iload_n 3, 1) := kq.at kqdX6_densest_39 11 rfl
theorem dX6_densest_58 : decode cX6_densest 58 = .ok (.iload_n 2, 1) := kq.at kqdX6_densest_39 12 rfl
theorem dX6_densest_59 : decode cX6_densest 59 = .ok (.invokestatic 117, 3) := kq.at kqdX6_densest_39 13 rfl
theorem dX6_densest_62 : decode cX6_densest 62 = .ok (.istore_n 3, 1) := kq.at kqdX6_densest_39 14 rfl
theorem dX6_densest_63 : decode cX6_densest 63 = .ok (.iinc 4 1, 3) := kq.at kqdX6_densest_39 15 rfl
theorem dX6_densest_66 : decode cX6_densest 66 = .ok (.goto (-44), 3) := kq.at kqdX6_densest_39 16 rfl
theorem dX6_densest_69 : decode cX6_densest 69 = .ok (.iload_n 3, 1) := kq.at kqdX6_densest_39 17 rfl
theorem dX6_densest_70 : decode cX6_densest 70 = .ok (.ireturn, 1) := kq.at kqdX6_densest_39 18 rfl
theorem kqdX6_timesOf_0 : kq cX6_timesOf [(0, .iconst 0, 1), (1, .istore_n 2, 1), (2, .iconst 0, 1), (3, .istore_n 3, 1), (4, .iload_n 3, 1), (5, .aload_n 0, 1), (6, .getfield 21, 3), (9, .if_icmp .ge 22, 3), (12, .aload_n 0, 1), (13, .getfield 9, 3), (16, .iload_n 3, 1), (17, .iaload, 1), (18, .iload_n 1, 1), (19, .if_icmp .ne 6, 3), (22, .iinc 2 1, 3), (25, .iinc 3 1, 3), (28, .goto (-24), 3), (31, .iload_n 2, 1), (32, .ireturn, 1)] = true := by decide +kernel
theorem dX6_timesOf_0 : decode cX6_timesOf 0 = .ok (.iconst 0, 1) := kq.at kqdX6_timesOf_0 0 rfl
theorem dX6_timesOf_1 : decode cX6_timesOf 1 = .ok (.istore_n 2, 1) := kq.at kqdX6_timesOf_0 1 rfl
theorem dX6_timesOf_2 : decode cX6_timesOf 2 = .ok (.iconst 0, 1) := kq.at kqdX6_timesOf_0 2 rfl
theorem dX6_timesOf_3 : decode cX6_timesOf 3 = .ok (.istore_n 3, 1) := kq.at kqdX6_timesOf_0 3 rfl
theorem dX6_timesOf_4 : decode cX6_timesOf 4 = .ok (.iload_n 3, 1) := kq.at kqdX6_timesOf_0 4 rfl
theorem dX6_timesOf_5 : decode cX6_timesOf 5 = .ok (.aload_n 0, 1) := kq.at kqdX6_timesOf_0 5 rfl
theorem dX6_timesOf_6 : decode cX6_timesOf 6 = .ok (.getfield 21, 3) := kq.at kqdX6_timesOf_0 6 rfl
theorem dX6_timesOf_9 : decode cX6_timesOf 9 = .ok (.if_icmp .ge 22, 3) := kq.at kqdX6_timesOf_0 7 rfl
theorem dX6_timesOf_12 : decode cX6_timesOf 12 = .ok (.aload_n 0, 1) := kq.at kqdX6_timesOf_0 8 rfl
theorem dX6_timesOf_13 : decode cX6_timesOf 13 = .ok (.getfield 9, 3) := kq.at kqdX6_timesOf_0 9 rfl
theorem dX6_timesOf_16 : decode cX6_timesOf 16 = .ok (.iload_n 3, 1) := kq.at kqdX6_timesOf_0 10 rfl
theorem dX6_timesOf_17 : decode cX6_timesOf 17 = .ok (.iaload, 1) := kq.at kqdX6_timesOf_0 11 rfl
theorem dX6_timesOf_18 : decode cX6_timesOf 18 = .ok (.iload_n 1, 1) := kq.at kqdX6_timesOf_0 12 rfl
theorem dX6_timesOf_19 : decode cX6_timesOf 19 = .ok (.if_icmp .ne 6, 3) := kq.at kqdX6_timesOf_0 13 rfl
theorem dX6_timesOf_22 : decode cX6_timesOf 22 = .ok (.iinc 2 1, 3) := kq.at kqdX6_timesOf_0 14 rfl
theorem dX6_timesOf_25 : decode cX6_timesOf 25 = .ok (.iinc 3 1, 3) := kq.at kqdX6_timesOf_0 15 rfl
theorem dX6_timesOf_28 : decode cX6_timesOf 28 = .ok (.goto (-24), 3) := kq.at kqdX6_timesOf_0 16 rfl
theorem dX6_timesOf_31 : decode cX6_timesOf 31 = .ok (.iload_n 2, 1) := kq.at kqdX6_timesOf_0 17 rfl
theorem dX6_timesOf_32 : decode cX6_timesOf 32 = .ok (.ireturn, 1) := kq.at kqdX6_timesOf_0 18 rfl
theorem kqdX7_init_0 : kq cX7_init [(0, .aload_n 0, 1), (1, .invokespecial 3, 3), (4, .aload_n 0, 1), (5, .iconst 0, 1), (6, .putfield 9, 3), (9, .aload_n 0, 1), (10, .iconst 0, 1), (11, .putfield 15, 3), (14, .aload_n 0, 1), (15, .iconst 5, 1), (16, .newarray .int, 2), (18, .putfield 18, 3), (21, .aload_n 0, 1), (22, .bipush 24, 2), (24, .newarray .int, 2), (26, .putfield 22, 3), (29, .aload_n 0, 1), (30, .bipush 24, 2), (32, .newarray .int, 2), (34, .putfield 25, 3), (37, .aload_n 0, 1), (38, .bipush 24, 2), (40, .newarray .int, 2), (42, .putfield 28, 3)] = true := by decide +kernel
theorem dX7_init_0 : decode cX7_init 0 = .ok (.aload_n 0, 1) := kq.at kqdX7_init_0 0 rfl
theorem dX7_init_1 : decode cX7_init 1 = .ok (.invokespecial 3, 3) := kq.at kqdX7_init_0 1 rfl
theorem dX7_init_4 : decode cX7_init 4 = .ok (.aload_n 0, 1) := kq.at kqdX7_init_0 2 rfl
theorem dX7_init_5 : decode cX7_init 5 = .ok (.iconst 0, 1) := kq.at kqdX7_init_0 3 rfl
theorem dX7_init_6 : decode cX7_init 6 = .ok (.putfield 9, 3) := kq.at kqdX7_init_0 4 rfl
theorem dX7_init_9 : decode cX7_init 9 = .ok (.aload_n 0, 1) := kq.at kqdX7_init_0 5 rfl
theorem dX7_init_10 : decode cX7_init 10 = .ok (.iconst 0, 1) := kq.at kqdX7_init_0 6 rfl
theorem dX7_init_11 : decode cX7_init 11 = .ok (.putfield 15, 3) := kq.at kqdX7_init_0 7 rfl
theorem dX7_init_14 : decode cX7_init 14 = .ok (.aload_n 0, 1) := kq.at kqdX7_init_0 8 rfl
theorem dX7_init_15 : decode cX7_init 15 = .ok (.iconst 5, 1) := kq.at kqdX7_init_0 9 rfl
theorem dX7_init_16 : decode cX7_init 16 = .ok (.newarray .int, 2) := kq.at kqdX7_init_0 10 rfl
theorem dX7_init_18 : decode cX7_init 18 = .ok (.putfield 18, 3) := kq.at kqdX7_init_0 11 rfl
theorem dX7_init_21 : decode cX7_init 21 = .ok (.aload_n 0, 1) := kq.at kqdX7_init_0 12 rfl
theorem dX7_init_22 : decode cX7_init 22 = .ok (.bipush 24, 2) := kq.at kqdX7_init_0 13 rfl
theorem dX7_init_24 : decode cX7_init 24 = .ok (.newarray .int, 2) := kq.at kqdX7_init_0 14 rfl
theorem dX7_init_26 : decode cX7_init 26 = .ok (.putfield 22, 3) := kq.at kqdX7_init_0 15 rfl
theorem dX7_init_29 : decode cX7_init 29 = .ok (.aload_n 0, 1) := kq.at kqdX7_init_0 16 rfl
theorem dX7_init_30 : decode cX7_init 30 = .ok (.bipush 24, 2) := kq.at kqdX7_init_0 17 rfl
theorem dX7_init_32 : decode cX7_init 32 = .ok (.newarray .int, 2) := kq.at kqdX7_init_0 18 rfl
theorem dX7_init_34 : decode cX7_init 34 = .ok (.putfield 25, 3) := kq.at kqdX7_init_0 19 rfl
theorem dX7_init_37 : decode cX7_init 37 = .ok (.aload_n 0, 1) := kq.at kqdX7_init_0 20 rfl
theorem dX7_init_38 : decode cX7_init 38 = .ok (.bipush 24, 2) := kq.at kqdX7_init_0 21 rfl
theorem dX7_init_40 : decode cX7_init 40 = .ok (.newarray .int, 2) := kq.at kqdX7_init_0 22 rfl
theorem dX7_init_42 : decode cX7_init 42 = .ok (.putfield 28, 3) := kq.at kqdX7_init_0 23 rfl
theorem kqdX7_init_45 : kq cX7_init [(45, .aload_n 0, 1), (46, .sipush 144, 3), (49, .newarray .int, 2), (51, .putfield 31, 3), (54, .aload_n 0, 1), (55, .bipush 72, 2), (57, .newarray .int, 2), (59, .putfield 34, 3), (62, .aload_n 0, 1), (63, .getfield 18, 3), (66, .iconst 3, 1), (67, .bipush 32, 2), (69, .iastore, 1), (70, .aload_n 0, 1), (71, .getfield 18, 3), (74, .iconst 4, 1), (75, .bipush 25, 2), (77, .iastore, 1), (78, .return_, 1)] = true := by decide +kernel
theorem dX7_init_45 : decode cX7_init 45 = .ok (.aload_n 0, 1) := kq.at kqdX7_init_45 0 rfl
theorem dX7_init_46 : decode cX7_init 46 = .ok (.sipush 144, 3) := kq.at kqdX7_init_45 1 rfl
theorem dX7_init_49 : decode cX7_init 49 = .ok (.newarray .int, 2) := kq.at kqdX7_init_45 2 rfl
theorem dX7_init_51 : decode cX7_init 51 = .ok (.putfield 31, 3) := kq.at kqdX7_init_45 3 rfl
theorem dX7_init_54 : decode cX7_init 54 = .ok (.aload_n 0, 1) := kq.at kqdX7_init_45 4 rfl
theorem dX7_init_55 : decode cX7_init 55 = .ok (.bipush 72, 2) := kq.at kqdX7_init_45 5 rfl
theorem dX7_init_57 : decode cX7_init 57 = .ok (.newarray .int, 2) := kq.at kqdX7_init_45 6 rfl
theorem dX7_init_59 : decode cX7_init 59 = .ok (.putfield 34, 3) := kq.at kqdX7_init_45 7 rfl
theorem dX7_init_62 : decode cX7_init 62 = .ok (.aload_n 0, 1) := kq.at kqdX7_init_45 8 rfl
theorem dX7_init_63 : decode cX7_init 63 = .ok (.getfield 18, 3) := kq.at kqdX7_init_45 9 rfl
theorem dX7_init_66 : decode cX7_init 66 = .ok (.iconst 3, 1) := kq.at kqdX7_init_45 10 rfl
theorem dX7_init_67 : decode cX7_init 67 = .ok (.bipush 32, 2) := kq.at kqdX7_init_45 11 rfl
theorem dX7_init_69 : decode cX7_init 69 = .ok (.iastore, 1) := kq.at kqdX7_init_45 12 rfl
theorem dX7_init_70 : decode cX7_init 70 = .ok (.aload_n 0, 1) := kq.at kqdX7_init_45 13 rfl
theorem dX7_init_71 : decode cX7_init 71 = .ok (.getfield 18, 3) := kq.at kqdX7_init_45 14 rfl
theorem dX7_init_74 : decode cX7_init 74 = .ok (.iconst 4, 1) := kq.at kqdX7_init_45 15 rfl
theorem dX7_init_75 : decode cX7_init 75 = .ok (.bipush 25, 2) := kq.at kqdX7_init_45 16 rfl
theorem dX7_init_77 : decode cX7_init 77 = .ok (.iastore, 1) := kq.at kqdX7_init_45 17 rfl
theorem dX7_init_78 : decode cX7_init 78 = .ok (.return_, 1) := kq.at kqdX7_init_45 18 rfl
theorem kqdX7_empty_0 : kq cX7_empty [(0, .aload_n 0, 1), (1, .iconst 0, 1), (2, .putfield 9, 3), (5, .aload_n 0, 1), (6, .iconst 0, 1), (7, .putfield 15, 3), (10, .aload_n 0, 1), (11, .getfield 18, 3), (14, .iconst 0, 1), (15, .iconst 0, 1), (16, .iastore, 1), (17, .aload_n 0, 1), (18, .getfield 18, 3), (21, .iconst 1, 1), (22, .iconst 0, 1), (23, .iastore, 1), (24, .aload_n 0, 1), (25, .getfield 18, 3), (28, .iconst 2, 1), (29, .iconst 0, 1), (30, .iastore, 1), (31, .aload_n 0, 1), (32, .getfield 18, 3), (35, .iconst 3, 1)] = true := by decide +kernel
theorem dX7_empty_0 : decode cX7_empty 0 = .ok (.aload_n 0, 1) := kq.at kqdX7_empty_0 0 rfl
theorem dX7_empty_1 : decode cX7_empty 1 = .ok (.iconst 0, 1) := kq.at kqdX7_empty_0 1 rfl
theorem dX7_empty_2 : decode cX7_empty 2 = .ok (.putfield 9, 3) := kq.at kqdX7_empty_0 2 rfl
theorem dX7_empty_5 : decode cX7_empty 5 = .ok (.aload_n 0, 1) := kq.at kqdX7_empty_0 3 rfl
theorem dX7_empty_6 : decode cX7_empty 6 = .ok (.iconst 0, 1) := kq.at kqdX7_empty_0 4 rfl
theorem dX7_empty_7 : decode cX7_empty 7 = .ok (.putfield 15, 3) := kq.at kqdX7_empty_0 5 rfl
theorem dX7_empty_10 : decode cX7_empty 10 = .ok (.aload_n 0, 1) := kq.at kqdX7_empty_0 6 rfl
theorem dX7_empty_11 : decode cX7_empty 11 = .ok (.getfield 18, 3) := kq.at kqdX7_empty_0 7 rfl
theorem dX7_empty_14 : decode cX7_empty 14 = .ok (.iconst 0, 1) := kq.at kqdX7_empty_0 8 rfl
theorem dX7_empty_15 : decode cX7_empty 15 = .ok (.iconst 0, 1) := kq.at kqdX7_empty_0 9 rfl
theorem dX7_empty_16 : decode cX7_empty 16 = .ok (.iastore, 1) := kq.at kqdX7_empty_0 10 rfl
theorem dX7_empty_17 : decode cX7_empty 17 = .ok (.aload_n 0, 1) := kq.at kqdX7_empty_0 11 rfl
theorem dX7_empty_18 : decode cX7_empty 18 = .ok (.getfield 18, 3) := kq.at kqdX7_empty_0 12 rfl
theorem dX7_empty_21 : decode cX7_empty 21 = .ok (.iconst 1, 1) := kq.at kqdX7_empty_0 13 rfl
theorem dX7_empty_22 : decode cX7_empty 22 = .ok (.iconst 0, 1) := kq.at kqdX7_empty_0 14 rfl
theorem dX7_empty_23 : decode cX7_empty 23 = .ok (.iastore, 1) := kq.at kqdX7_empty_0 15 rfl
theorem dX7_empty_24 : decode cX7_empty 24 = .ok (.aload_n 0, 1) := kq.at kqdX7_empty_0 16 rfl
theorem dX7_empty_25 : decode cX7_empty 25 = .ok (.getfield 18, 3) := kq.at kqdX7_empty_0 17 rfl
theorem dX7_empty_28 : decode cX7_empty 28 = .ok (.iconst 2, 1) := kq.at kqdX7_empty_0 18 rfl
theorem dX7_empty_29 : decode cX7_empty 29 = .ok (.iconst 0, 1) := kq.at kqdX7_empty_0 19 rfl
theorem dX7_empty_30 : decode cX7_empty 30 = .ok (.iastore, 1) := kq.at kqdX7_empty_0 20 rfl
theorem dX7_empty_31 : decode cX7_empty 31 = .ok (.aload_n 0, 1) := kq.at kqdX7_empty_0 21 rfl
theorem dX7_empty_32 : decode cX7_empty 32 = .ok (.getfield 18, 3) := kq.at kqdX7_empty_0 22 rfl
theorem dX7_empty_35 : decode cX7_empty 35 = .ok (.iconst 3, 1) := kq.at kqdX7_empty_0 23 rfl
theorem kqdX7_empty_36 : kq cX7_empty [(36, .bipush 32, 2), (38, .iastore, 1), (39, .aload_n 0, 1), (40, .getfield 18, 3), (43, .iconst 4, 1), (44, .bipush 25, 2), (46, .iastore, 1), (47, .return_, 1)] = true := by decide +kernel
theorem dX7_empty_36 : decode cX7_empty 36 = .ok (.bipush 32, 2) := kq.at kqdX7_empty_36 0 rfl
theorem dX7_empty_38 : decode cX7_empty 38 = .ok (.iastore, 1) := kq.at kqdX7_empty_36 1 rfl
theorem dX7_empty_39 : decode cX7_empty 39 = .ok (.aload_n 0, 1) := kq.at kqdX7_empty_36 2 rfl
theorem dX7_empty_40 : decode cX7_empty 40 = .ok (.getfield 18, 3) := kq.at kqdX7_empty_36 3 rfl
theorem dX7_empty_43 : decode cX7_empty 43 = .ok (.iconst 4, 1) := kq.at kqdX7_empty_36 4 rfl
theorem dX7_empty_44 : decode cX7_empty 44 = .ok (.bipush 25, 2) := kq.at kqdX7_empty_36 5 rfl
theorem dX7_empty_46 : decode cX7_empty 46 = .ok (.iastore, 1) := kq.at kqdX7_empty_36 6 rfl
theorem dX7_empty_47 : decode cX7_empty 47 = .ok (.return_, 1) := kq.at kqdX7_empty_36 7 rfl
theorem kqdX7_copyOf_0 : kq cX7_copyOf [(0, .aload_n 0, 1), (1, .aload_n 1, 1), (2, .getfield 9, 3), (5, .putfield 9, 3), (8, .aload_n 0, 1), (9, .aload_n 1, 1), (10, .getfield 15, 3), (13, .putfield 15, 3), (16, .aload_n 1, 1), (17, .getfield 18, 3), (20, .iconst 0, 1), (21, .aload_n 0, 1), (22, .getfield 18, 3), (25, .iconst 0, 1), (26, .iconst 5, 1), (27, .invokestatic 37, 3), (30, .aload_n 1, 1), (31, .getfield 22, 3), (34, .iconst 0, 1), (35, .aload_n 0, 1), (36, .getfield 22, 3), (39, .iconst 0, 1), (40, .bipush 24, 2), (42, .invokestatic 37, 3)] = true := by decide +kernel
theorem dX7_copyOf_0 : decode cX7_copyOf 0 = .ok (.aload_n 0, 1) := kq.at kqdX7_copyOf_0 0 rfl
theorem dX7_copyOf_1 : decode cX7_copyOf 1 = .ok (.aload_n 1, 1) := kq.at kqdX7_copyOf_0 1 rfl
theorem dX7_copyOf_2 : decode cX7_copyOf 2 = .ok (.getfield 9, 3) := kq.at kqdX7_copyOf_0 2 rfl
theorem dX7_copyOf_5 : decode cX7_copyOf 5 = .ok (.putfield 9, 3) := kq.at kqdX7_copyOf_0 3 rfl
theorem dX7_copyOf_8 : decode cX7_copyOf 8 = .ok (.aload_n 0, 1) := kq.at kqdX7_copyOf_0 4 rfl
theorem dX7_copyOf_9 : decode cX7_copyOf 9 = .ok (.aload_n 1, 1) := kq.at kqdX7_copyOf_0 5 rfl
theorem dX7_copyOf_10 : decode cX7_copyOf 10 = .ok (.getfield 15, 3) := kq.at kqdX7_copyOf_0 6 rfl
theorem dX7_copyOf_13 : decode cX7_copyOf 13 = .ok (.putfield 15, 3) := kq.at kqdX7_copyOf_0 7 rfl
theorem dX7_copyOf_16 : decode cX7_copyOf 16 = .ok (.aload_n 1, 1) := kq.at kqdX7_copyOf_0 8 rfl
theorem dX7_copyOf_17 : decode cX7_copyOf 17 = .ok (.getfield 18, 3) := kq.at kqdX7_copyOf_0 9 rfl
theorem dX7_copyOf_20 : decode cX7_copyOf 20 = .ok (.iconst 0, 1) := kq.at kqdX7_copyOf_0 10 rfl
theorem dX7_copyOf_21 : decode cX7_copyOf 21 = .ok (.aload_n 0, 1) := kq.at kqdX7_copyOf_0 11 rfl
theorem dX7_copyOf_22 : decode cX7_copyOf 22 = .ok (.getfield 18, 3) := kq.at kqdX7_copyOf_0 12 rfl
theorem dX7_copyOf_25 : decode cX7_copyOf 25 = .ok (.iconst 0, 1) := kq.at kqdX7_copyOf_0 13 rfl
theorem dX7_copyOf_26 : decode cX7_copyOf 26 = .ok (.iconst 5, 1) := kq.at kqdX7_copyOf_0 14 rfl
theorem dX7_copyOf_27 : decode cX7_copyOf 27 = .ok (.invokestatic 37, 3) := kq.at kqdX7_copyOf_0 15 rfl
theorem dX7_copyOf_30 : decode cX7_copyOf 30 = .ok (.aload_n 1, 1) := kq.at kqdX7_copyOf_0 16 rfl
theorem dX7_copyOf_31 : decode cX7_copyOf 31 = .ok (.getfield 22, 3) := kq.at kqdX7_copyOf_0 17 rfl
theorem dX7_copyOf_34 : decode cX7_copyOf 34 = .ok (.iconst 0, 1) := kq.at kqdX7_copyOf_0 18 rfl
theorem dX7_copyOf_35 : decode cX7_copyOf 35 = .ok (.aload_n 0, 1) := kq.at kqdX7_copyOf_0 19 rfl
theorem dX7_copyOf_36 : decode cX7_copyOf 36 = .ok (.getfield 22, 3) := kq.at kqdX7_copyOf_0 20 rfl
theorem dX7_copyOf_39 : decode cX7_copyOf 39 = .ok (.iconst 0, 1) := kq.at kqdX7_copyOf_0 21 rfl
theorem dX7_copyOf_40 : decode cX7_copyOf 40 = .ok (.bipush 24, 2) := kq.at kqdX7_copyOf_0 22 rfl
theorem dX7_copyOf_42 : decode cX7_copyOf 42 = .ok (.invokestatic 37, 3) := kq.at kqdX7_copyOf_0 23 rfl
theorem kqdX7_copyOf_45 : kq cX7_copyOf [(45, .aload_n 1, 1), (46, .getfield 25, 3), (49, .iconst 0, 1), (50, .aload_n 0, 1), (51, .getfield 25, 3), (54, .iconst 0, 1), (55, .bipush 24, 2), (57, .invokestatic 37, 3), (60, .aload_n 1, 1), (61, .getfield 28, 3), (64, .iconst 0, 1), (65, .aload_n 0, 1), (66, .getfield 28, 3), (69, .iconst 0, 1), (70, .bipush 24, 2), (72, .invokestatic 37, 3), (75, .aload_n 1, 1), (76, .getfield 31, 3), (79, .iconst 0, 1), (80, .aload_n 0, 1), (81, .getfield 31, 3), (84, .iconst 0, 1), (85, .sipush 144, 3), (88, .invokestatic 37, 3)] = true := by decide +kernel
theorem dX7_copyOf_45 : decode cX7_copyOf 45 = .ok (.aload_n 1, 1) := kq.at kqdX7_copyOf_45 0 rfl
theorem dX7_copyOf_46 : decode cX7_copyOf 46 = .ok (.getfield 25, 3) := kq.at kqdX7_copyOf_45 1 rfl
theorem dX7_copyOf_49 : decode cX7_copyOf 49 = .ok (.iconst 0, 1) := kq.at kqdX7_copyOf_45 2 rfl
theorem dX7_copyOf_50 : decode cX7_copyOf 50 = .ok (.aload_n 0, 1) := kq.at kqdX7_copyOf_45 3 rfl
theorem dX7_copyOf_51 : decode cX7_copyOf 51 = .ok (.getfield 25, 3) := kq.at kqdX7_copyOf_45 4 rfl
theorem dX7_copyOf_54 : decode cX7_copyOf 54 = .ok (.iconst 0, 1) := kq.at kqdX7_copyOf_45 5 rfl
theorem dX7_copyOf_55 : decode cX7_copyOf 55 = .ok (.bipush 24, 2) := kq.at kqdX7_copyOf_45 6 rfl
theorem dX7_copyOf_57 : decode cX7_copyOf 57 = .ok (.invokestatic 37, 3) := kq.at kqdX7_copyOf_45 7 rfl
theorem dX7_copyOf_60 : decode cX7_copyOf 60 = .ok (.aload_n 1, 1) := kq.at kqdX7_copyOf_45 8 rfl
theorem dX7_copyOf_61 : decode cX7_copyOf 61 = .ok (.getfield 28, 3) := kq.at kqdX7_copyOf_45 9 rfl
theorem dX7_copyOf_64 : decode cX7_copyOf 64 = .ok (.iconst 0, 1) := kq.at kqdX7_copyOf_45 10 rfl
theorem dX7_copyOf_65 : decode cX7_copyOf 65 = .ok (.aload_n 0, 1) := kq.at kqdX7_copyOf_45 11 rfl
theorem dX7_copyOf_66 : decode cX7_copyOf 66 = .ok (.getfield 28, 3) := kq.at kqdX7_copyOf_45 12 rfl
theorem dX7_copyOf_69 : decode cX7_copyOf 69 = .ok (.iconst 0, 1) := kq.at kqdX7_copyOf_45 13 rfl
theorem dX7_copyOf_70 : decode cX7_copyOf 70 = .ok (.bipush 24, 2) := kq.at kqdX7_copyOf_45 14 rfl
theorem dX7_copyOf_72 : decode cX7_copyOf 72 = .ok (.invokestatic 37, 3) := kq.at kqdX7_copyOf_45 15 rfl
theorem dX7_copyOf_75 : decode cX7_copyOf 75 = .ok (.aload_n 1, 1) := kq.at kqdX7_copyOf_45 16 rfl
theorem dX7_copyOf_76 : decode cX7_copyOf 76 = .ok (.getfield 31, 3) := kq.at kqdX7_copyOf_45 17 rfl
theorem dX7_copyOf_79 : decode cX7_copyOf 79 = .ok (.iconst 0, 1) := kq.at kqdX7_copyOf_45 18 rfl
theorem dX7_copyOf_80 : decode cX7_copyOf 80 = .ok (.aload_n 0, 1) := kq.at kqdX7_copyOf_45 19 rfl
theorem dX7_copyOf_81 : decode cX7_copyOf 81 = .ok (.getfield 31, 3) := kq.at kqdX7_copyOf_45 20 rfl
theorem dX7_copyOf_84 : decode cX7_copyOf 84 = .ok (.iconst 0, 1) := kq.at kqdX7_copyOf_45 21 rfl
theorem dX7_copyOf_85 : decode cX7_copyOf 85 = .ok (.sipush 144, 3) := kq.at kqdX7_copyOf_45 22 rfl
theorem dX7_copyOf_88 : decode cX7_copyOf 88 = .ok (.invokestatic 37, 3) := kq.at kqdX7_copyOf_45 23 rfl
theorem kqdX7_copyOf_91 : kq cX7_copyOf [(91, .aload_n 1, 1), (92, .getfield 34, 3), (95, .iconst 0, 1), (96, .aload_n 0, 1), (97, .getfield 34, 3), (100, .iconst 0, 1), (101, .bipush 72, 2), (103, .invokestatic 37, 3), (106, .return_, 1)] = true := by decide +kernel
theorem dX7_copyOf_91 : decode cX7_copyOf 91 = .ok (.aload_n 1, 1) := kq.at kqdX7_copyOf_91 0 rfl
theorem dX7_copyOf_92 : decode cX7_copyOf 92 = .ok (.getfield 34, 3) := kq.at kqdX7_copyOf_91 1 rfl
theorem dX7_copyOf_95 : decode cX7_copyOf 95 = .ok (.iconst 0, 1) := kq.at kqdX7_copyOf_91 2 rfl
theorem dX7_copyOf_96 : decode cX7_copyOf 96 = .ok (.aload_n 0, 1) := kq.at kqdX7_copyOf_91 3 rfl
theorem dX7_copyOf_97 : decode cX7_copyOf 97 = .ok (.getfield 34, 3) := kq.at kqdX7_copyOf_91 4 rfl
theorem dX7_copyOf_100 : decode cX7_copyOf 100 = .ok (.iconst 0, 1) := kq.at kqdX7_copyOf_91 5 rfl
theorem dX7_copyOf_101 : decode cX7_copyOf 101 = .ok (.bipush 72, 2) := kq.at kqdX7_copyOf_91 6 rfl
theorem dX7_copyOf_103 : decode cX7_copyOf 103 = .ok (.invokestatic 37, 3) := kq.at kqdX7_copyOf_91 7 rfl
theorem dX7_copyOf_106 : decode cX7_copyOf 106 = .ok (.return_, 1) := kq.at kqdX7_copyOf_91 8 rfl
theorem kqdX7_has_0 : kq cX7_has [(0, .iload_n 1, 1), (1, .ifCond .lt 15, 3), (4, .iload_n 1, 1), (5, .aload_n 0, 1), (6, .getfield 9, 3), (9, .if_icmp .ge 7, 3), (12, .iconst 1, 1), (13, .goto 4, 3), (16, .iconst 0, 1), (17, .ireturn, 1)] = true := by decide +kernel
theorem dX7_has_0 : decode cX7_has 0 = .ok (.iload_n 1, 1) := kq.at kqdX7_has_0 0 rfl
theorem dX7_has_1 : decode cX7_has 1 = .ok (.ifCond .lt 15, 3) := kq.at kqdX7_has_0 1 rfl
theorem dX7_has_4 : decode cX7_has 4 = .ok (.iload_n 1, 1) := kq.at kqdX7_has_0 2 rfl
theorem dX7_has_5 : decode cX7_has 5 = .ok (.aload_n 0, 1) := kq.at kqdX7_has_0 3 rfl
theorem dX7_has_6 : decode cX7_has 6 = .ok (.getfield 9, 3) := kq.at kqdX7_has_0 4 rfl
theorem dX7_has_9 : decode cX7_has 9 = .ok (.if_icmp .ge 7, 3) := kq.at kqdX7_has_0 5 rfl
theorem dX7_has_12 : decode cX7_has 12 = .ok (.iconst 1, 1) := kq.at kqdX7_has_0 6 rfl
theorem dX7_has_13 : decode cX7_has 13 = .ok (.goto 4, 3) := kq.at kqdX7_has_0 7 rfl
theorem dX7_has_16 : decode cX7_has 16 = .ok (.iconst 0, 1) := kq.at kqdX7_has_0 8 rfl
theorem dX7_has_17 : decode cX7_has 17 = .ok (.ireturn, 1) := kq.at kqdX7_has_0 9 rfl
theorem kqdX7_isThere_0 : kq cX7_isThere [(0, .iload_n 1, 1), (1, .aload_n 0, 1), (2, .getfield 15, 3), (5, .invokestatic 43, 3), (8, .ireturn, 1)] = true := by decide +kernel
theorem dX7_isThere_0 : decode cX7_isThere 0 = .ok (.iload_n 1, 1) := kq.at kqdX7_isThere_0 0 rfl
theorem dX7_isThere_1 : decode cX7_isThere 1 = .ok (.aload_n 0, 1) := kq.at kqdX7_isThere_0 1 rfl
theorem dX7_isThere_2 : decode cX7_isThere 2 = .ok (.getfield 15, 3) := kq.at kqdX7_isThere_0 2 rfl
theorem dX7_isThere_5 : decode cX7_isThere 5 = .ok (.invokestatic 43, 3) := kq.at kqdX7_isThere_0 3 rfl
theorem dX7_isThere_8 : decode cX7_isThere 8 = .ok (.ireturn, 1) := kq.at kqdX7_isThere_0 4 rfl
theorem kqdX7_isIn_0 : kq cX7_isIn [(0, .iload_n 1, 1), (1, .iload_n 0, 1), (2, .ishr, 1), (3, .iconst 1, 1), (4, .iand, 1), (5, .ifCond .ne 7, 3), (8, .iconst 1, 1), (9, .goto 4, 3), (12, .iconst 0, 1), (13, .ireturn, 1)] = true := by decide +kernel
theorem dX7_isIn_0 : decode cX7_isIn 0 = .ok (.iload_n 1, 1) := kq.at kqdX7_isIn_0 0 rfl
theorem dX7_isIn_1 : decode cX7_isIn 1 = .ok (.iload_n 0, 1) := kq.at kqdX7_isIn_0 1 rfl
theorem dX7_isIn_2 : decode cX7_isIn 2 = .ok (.ishr, 1) := kq.at kqdX7_isIn_0 2 rfl
theorem dX7_isIn_3 : decode cX7_isIn 3 = .ok (.iconst 1, 1) := kq.at kqdX7_isIn_0 3 rfl
theorem dX7_isIn_4 : decode cX7_isIn 4 = .ok (.iand, 1) := kq.at kqdX7_isIn_0 4 rfl
theorem dX7_isIn_5 : decode cX7_isIn 5 = .ok (.ifCond .ne 7, 3) := kq.at kqdX7_isIn_0 5 rfl
theorem dX7_isIn_8 : decode cX7_isIn 8 = .ok (.iconst 1, 1) := kq.at kqdX7_isIn_0 6 rfl
theorem dX7_isIn_9 : decode cX7_isIn 9 = .ok (.goto 4, 3) := kq.at kqdX7_isIn_0 7 rfl
theorem dX7_isIn_12 : decode cX7_isIn 12 = .ok (.iconst 0, 1) := kq.at kqdX7_isIn_0 8 rfl
theorem dX7_isIn_13 : decode cX7_isIn 13 = .ok (.ireturn, 1) := kq.at kqdX7_isIn_0 9 rfl
theorem kqdX7_letterAt_0 : kq cX7_letterAt [(0, .aload_n 0, 1), (1, .getfield 31, 3), (4, .iload_n 1, 1), (5, .bipush 6, 2), (7, .imul, 1), (8, .iload_n 2, 1), (9, .iadd, 1), (10, .iaload, 1), (11, .ireturn, 1)] = true := by decide +kernel
theorem dX7_letterAt_0 : decode cX7_letterAt 0 = .ok (.aload_n 0, 1) := kq.at kqdX7_letterAt_0 0 rfl
theorem dX7_letterAt_1 : decode cX7_letterAt 1 = .ok (.getfield 31, 3) := kq.at kqdX7_letterAt_0 1 rfl
theorem dX7_letterAt_4 : decode cX7_letterAt 4 = .ok (.iload_n 1, 1) := kq.at kqdX7_letterAt_0 2 rfl
theorem dX7_letterAt_5 : decode cX7_letterAt 5 = .ok (.bipush 6, 2) := kq.at kqdX7_letterAt_0 3 rfl
theorem dX7_letterAt_7 : decode cX7_letterAt 7 = .ok (.imul, 1) := kq.at kqdX7_letterAt_0 4 rfl
theorem dX7_letterAt_8 : decode cX7_letterAt 8 = .ok (.iload_n 2, 1) := kq.at kqdX7_letterAt_0 5 rfl
theorem dX7_letterAt_9 : decode cX7_letterAt 9 = .ok (.iadd, 1) := kq.at kqdX7_letterAt_0 6 rfl
theorem dX7_letterAt_10 : decode cX7_letterAt 10 = .ok (.iaload, 1) := kq.at kqdX7_letterAt_0 7 rfl
theorem dX7_letterAt_11 : decode cX7_letterAt 11 = .ok (.ireturn, 1) := kq.at kqdX7_letterAt_0 8 rfl
theorem kqdX7_cellAt_0 : kq cX7_cellAt [(0, .aload_n 0, 1), (1, .getfield 34, 3), (4, .iload_n 1, 1), (5, .iconst 3, 1), (6, .imul, 1), (7, .iload_n 2, 1), (8, .iadd, 1), (9, .iaload, 1), (10, .ireturn, 1)] = true := by decide +kernel
theorem dX7_cellAt_0 : decode cX7_cellAt 0 = .ok (.aload_n 0, 1) := kq.at kqdX7_cellAt_0 0 rfl
theorem dX7_cellAt_1 : decode cX7_cellAt 1 = .ok (.getfield 34, 3) := kq.at kqdX7_cellAt_0 1 rfl
theorem dX7_cellAt_4 : decode cX7_cellAt 4 = .ok (.iload_n 1, 1) := kq.at kqdX7_cellAt_0 2 rfl
theorem dX7_cellAt_5 : decode cX7_cellAt 5 = .ok (.iconst 3, 1) := kq.at kqdX7_cellAt_0 3 rfl
theorem dX7_cellAt_6 : decode cX7_cellAt 6 = .ok (.imul, 1) := kq.at kqdX7_cellAt_0 4 rfl
theorem dX7_cellAt_7 : decode cX7_cellAt 7 = .ok (.iload_n 2, 1) := kq.at kqdX7_cellAt_0 5 rfl
theorem dX7_cellAt_8 : decode cX7_cellAt 8 = .ok (.iadd, 1) := kq.at kqdX7_cellAt_0 6 rfl
theorem dX7_cellAt_9 : decode cX7_cellAt 9 = .ok (.iaload, 1) := kq.at kqdX7_cellAt_0 7 rfl
theorem dX7_cellAt_10 : decode cX7_cellAt 10 = .ok (.ireturn, 1) := kq.at kqdX7_cellAt_0 8 rfl
theorem kqdX7_putLetter_0 : kq cX7_putLetter [(0, .aload_n 0, 1), (1, .getfield 31, 3), (4, .iload_n 1, 1), (5, .bipush 6, 2), (7, .imul, 1), (8, .iload_n 2, 1), (9, .iadd, 1), (10, .iload_n 3, 1), (11, .iastore, 1), (12, .return_, 1)] = true := by decide +kernel
theorem dX7_putLetter_0 : decode cX7_putLetter 0 = .ok (.aload_n 0, 1) := kq.at kqdX7_putLetter_0 0 rfl
theorem dX7_putLetter_1 : decode cX7_putLetter 1 = .ok (.getfield 31, 3) := kq.at kqdX7_putLetter_0 1 rfl
theorem dX7_putLetter_4 : decode cX7_putLetter 4 = .ok (.iload_n 1, 1) := kq.at kqdX7_putLetter_0 2 rfl
theorem dX7_putLetter_5 : decode cX7_putLetter 5 = .ok (.bipush 6, 2) := kq.at kqdX7_putLetter_0 3 rfl
theorem dX7_putLetter_7 : decode cX7_putLetter 7 = .ok (.imul, 1) := kq.at kqdX7_putLetter_0 4 rfl
theorem dX7_putLetter_8 : decode cX7_putLetter 8 = .ok (.iload_n 2, 1) := kq.at kqdX7_putLetter_0 5 rfl
theorem dX7_putLetter_9 : decode cX7_putLetter 9 = .ok (.iadd, 1) := kq.at kqdX7_putLetter_0 6 rfl
theorem dX7_putLetter_10 : decode cX7_putLetter 10 = .ok (.iload_n 3, 1) := kq.at kqdX7_putLetter_0 7 rfl
theorem dX7_putLetter_11 : decode cX7_putLetter 11 = .ok (.iastore, 1) := kq.at kqdX7_putLetter_0 8 rfl
theorem dX7_putLetter_12 : decode cX7_putLetter 12 = .ok (.return_, 1) := kq.at kqdX7_putLetter_0 9 rfl
theorem kqdX7_putCell_0 : kq cX7_putCell [(0, .aload_n 0, 1), (1, .getfield 34, 3), (4, .iload_n 1, 1), (5, .iconst 3, 1), (6, .imul, 1), (7, .iload_n 2, 1), (8, .iadd, 1), (9, .iload_n 3, 1), (10, .iastore, 1), (11, .return_, 1)] = true := by decide +kernel
theorem dX7_putCell_0 : decode cX7_putCell 0 = .ok (.aload_n 0, 1) := kq.at kqdX7_putCell_0 0 rfl
theorem dX7_putCell_1 : decode cX7_putCell 1 = .ok (.getfield 34, 3) := kq.at kqdX7_putCell_0 1 rfl
theorem dX7_putCell_4 : decode cX7_putCell 4 = .ok (.iload_n 1, 1) := kq.at kqdX7_putCell_0 2 rfl
theorem dX7_putCell_5 : decode cX7_putCell 5 = .ok (.iconst 3, 1) := kq.at kqdX7_putCell_0 3 rfl
theorem dX7_putCell_6 : decode cX7_putCell 6 = .ok (.imul, 1) := kq.at kqdX7_putCell_0 4 rfl
theorem dX7_putCell_7 : decode cX7_putCell 7 = .ok (.iload_n 2, 1) := kq.at kqdX7_putCell_0 5 rfl
theorem dX7_putCell_8 : decode cX7_putCell 8 = .ok (.iadd, 1) := kq.at kqdX7_putCell_0 6 rfl
theorem dX7_putCell_9 : decode cX7_putCell 9 = .ok (.iload_n 3, 1) := kq.at kqdX7_putCell_0 7 rfl
theorem dX7_putCell_10 : decode cX7_putCell 10 = .ok (.iastore, 1) := kq.at kqdX7_putCell_0 8 rfl
theorem dX7_putCell_11 : decode cX7_putCell 11 = .ok (.return_, 1) := kq.at kqdX7_putCell_0 9 rfl
theorem kqdX7_isSameRule_0 : kq cX7_isSameRule [(0, .aload_n 0, 1), (1, .getfield 22, 3), (4, .iload_n 1, 1), (5, .iaload, 1), (6, .aload_n 0, 1), (7, .getfield 22, 3), (10, .iload_n 2, 1), (11, .iaload, 1), (12, .if_icmp .ne 18, 3), (15, .aload_n 0, 1), (16, .getfield 28, 3), (19, .iload_n 1, 1), (20, .iaload, 1), (21, .aload_n 0, 1), (22, .getfield 28, 3), (25, .iload_n 2, 1), (26, .iaload, 1), (27, .if_icmp .eq 5, 3), (30, .iconst 0, 1), (31, .ireturn, 1), (32, .iconst 0, 1), (33, .istore_n 3, 1), (34, .iload_n 3, 1), (35, .aload_n 0, 1)] = true := by decide +kernel
theorem dX7_isSameRule_0 : decode cX7_isSameRule 0 = .ok (.aload_n 0, 1) := kq.at kqdX7_isSameRule_0 0 rfl
theorem dX7_isSameRule_1 : decode cX7_isSameRule 1 = .ok (.getfield 22, 3) := kq.at kqdX7_isSameRule_0 1 rfl
theorem dX7_isSameRule_4 : decode cX7_isSameRule 4 = .ok (.iload_n 1, 1) := kq.at kqdX7_isSameRule_0 2 rfl
theorem dX7_isSameRule_5 : decode cX7_isSameRule 5 = .ok (.iaload, 1) := kq.at kqdX7_isSameRule_0 3 rfl
theorem dX7_isSameRule_6 : decode cX7_isSameRule 6 = .ok (.aload_n 0, 1) := kq.at kqdX7_isSameRule_0 4 rfl
theorem dX7_isSameRule_7 : decode cX7_isSameRule 7 = .ok (.getfield 22, 3) := kq.at kqdX7_isSameRule_0 5 rfl
theorem dX7_isSameRule_10 : decode cX7_isSameRule 10 = .ok (.iload_n 2, 1) := kq.at kqdX7_isSameRule_0 6 rfl
theorem dX7_isSameRule_11 : decode cX7_isSameRule 11 = .ok (.iaload, 1) := kq.at kqdX7_isSameRule_0 7 rfl
theorem dX7_isSameRule_12 : decode cX7_isSameRule 12 = .ok (.if_icmp .ne 18, 3) := kq.at kqdX7_isSameRule_0 8 rfl
theorem dX7_isSameRule_15 : decode cX7_isSameRule 15 = .ok (.aload_n 0, 1) := kq.at kqdX7_isSameRule_0 9 rfl
theorem dX7_isSameRule_16 : decode cX7_isSameRule 16 = .ok (.getfield 28, 3) := kq.at kqdX7_isSameRule_0 10 rfl
theorem dX7_isSameRule_19 : decode cX7_isSameRule 19 = .ok (.iload_n 1, 1) := kq.at kqdX7_isSameRule_0 11 rfl
theorem dX7_isSameRule_20 : decode cX7_isSameRule 20 = .ok (.iaload, 1) := kq.at kqdX7_isSameRule_0 12 rfl
theorem dX7_isSameRule_21 : decode cX7_isSameRule 21 = .ok (.aload_n 0, 1) := kq.at kqdX7_isSameRule_0 13 rfl
theorem dX7_isSameRule_22 : decode cX7_isSameRule 22 = .ok (.getfield 28, 3) := kq.at kqdX7_isSameRule_0 14 rfl
theorem dX7_isSameRule_25 : decode cX7_isSameRule 25 = .ok (.iload_n 2, 1) := kq.at kqdX7_isSameRule_0 15 rfl
theorem dX7_isSameRule_26 : decode cX7_isSameRule 26 = .ok (.iaload, 1) := kq.at kqdX7_isSameRule_0 16 rfl
theorem dX7_isSameRule_27 : decode cX7_isSameRule 27 = .ok (.if_icmp .eq 5, 3) := kq.at kqdX7_isSameRule_0 17 rfl
theorem dX7_isSameRule_30 : decode cX7_isSameRule 30 = .ok (.iconst 0, 1) := kq.at kqdX7_isSameRule_0 18 rfl
theorem dX7_isSameRule_31 : decode cX7_isSameRule 31 = .ok (.ireturn, 1) := kq.at kqdX7_isSameRule_0 19 rfl
theorem dX7_isSameRule_32 : decode cX7_isSameRule 32 = .ok (.iconst 0, 1) := kq.at kqdX7_isSameRule_0 20 rfl
theorem dX7_isSameRule_33 : decode cX7_isSameRule 33 = .ok (.istore_n 3, 1) := kq.at kqdX7_isSameRule_0 21 rfl
theorem dX7_isSameRule_34 : decode cX7_isSameRule 34 = .ok (.iload_n 3, 1) := kq.at kqdX7_isSameRule_0 22 rfl
theorem dX7_isSameRule_35 : decode cX7_isSameRule 35 = .ok (.aload_n 0, 1) := kq.at kqdX7_isSameRule_0 23 rfl
theorem kqdX7_isSameRule_36 : kq cX7_isSameRule [(36, .getfield 22, 3), (39, .iload_n 1, 1), (40, .iaload, 1), (41, .if_icmp .ge 26, 3), (44, .aload_n 0, 1), (45, .iload_n 1, 1), (46, .iload_n 3, 1), (47, .invokevirtual 47, 3), (50, .aload_n 0, 1), (51, .iload_n 2, 1), (52, .iload_n 3, 1), (53, .invokevirtual 47, 3), (56, .if_icmp .eq 5, 3), (59, .iconst 0, 1), (60, .ireturn, 1), (61, .iinc 3 1, 3), (64, .goto (-30), 3), (67, .iconst 1, 1), (68, .ireturn, 1)] = true := by decide +kernel
theorem dX7_isSameRule_36 : decode cX7_isSameRule 36 = .ok (.getfield 22, 3) := kq.at kqdX7_isSameRule_36 0 rfl
theorem dX7_isSameRule_39 : decode cX7_isSameRule 39 = .ok (.iload_n 1, 1) := kq.at kqdX7_isSameRule_36 1 rfl
theorem dX7_isSameRule_40 : decode cX7_isSameRule 40 = .ok (.iaload, 1) := kq.at kqdX7_isSameRule_36 2 rfl
theorem dX7_isSameRule_41 : decode cX7_isSameRule 41 = .ok (.if_icmp .ge 26, 3) := kq.at kqdX7_isSameRule_36 3 rfl
theorem dX7_isSameRule_44 : decode cX7_isSameRule 44 = .ok (.aload_n 0, 1) := kq.at kqdX7_isSameRule_36 4 rfl
theorem dX7_isSameRule_45 : decode cX7_isSameRule 45 = .ok (.iload_n 1, 1) := kq.at kqdX7_isSameRule_36 5 rfl
theorem dX7_isSameRule_46 : decode cX7_isSameRule 46 = .ok (.iload_n 3, 1) := kq.at kqdX7_isSameRule_36 6 rfl
theorem dX7_isSameRule_47 : decode cX7_isSameRule 47 = .ok (.invokevirtual 47, 3) := kq.at kqdX7_isSameRule_36 7 rfl
theorem dX7_isSameRule_50 : decode cX7_isSameRule 50 = .ok (.aload_n 0, 1) := kq.at kqdX7_isSameRule_36 8 rfl
theorem dX7_isSameRule_51 : decode cX7_isSameRule 51 = .ok (.iload_n 2, 1) := kq.at kqdX7_isSameRule_36 9 rfl
theorem dX7_isSameRule_52 : decode cX7_isSameRule 52 = .ok (.iload_n 3, 1) := kq.at kqdX7_isSameRule_36 10 rfl
theorem dX7_isSameRule_53 : decode cX7_isSameRule 53 = .ok (.invokevirtual 47, 3) := kq.at kqdX7_isSameRule_36 11 rfl
theorem dX7_isSameRule_56 : decode cX7_isSameRule 56 = .ok (.if_icmp .eq 5, 3) := kq.at kqdX7_isSameRule_36 12 rfl
theorem dX7_isSameRule_59 : decode cX7_isSameRule 59 = .ok (.iconst 0, 1) := kq.at kqdX7_isSameRule_36 13 rfl
theorem dX7_isSameRule_60 : decode cX7_isSameRule 60 = .ok (.ireturn, 1) := kq.at kqdX7_isSameRule_36 14 rfl
theorem dX7_isSameRule_61 : decode cX7_isSameRule 61 = .ok (.iinc 3 1, 3) := kq.at kqdX7_isSameRule_36 15 rfl
theorem dX7_isSameRule_64 : decode cX7_isSameRule 64 = .ok (.goto (-30), 3) := kq.at kqdX7_isSameRule_36 16 rfl
theorem dX7_isSameRule_67 : decode cX7_isSameRule 67 = .ok (.iconst 1, 1) := kq.at kqdX7_isSameRule_36 17 rfl
theorem dX7_isSameRule_68 : decode cX7_isSameRule 68 = .ok (.ireturn, 1) := kq.at kqdX7_isSameRule_36 18 rfl
theorem kqdX7_condHolds_0 : kq cX7_condHolds [(0, .aload_n 0, 1), (1, .getfield 28, 3), (4, .iload_n 1, 1), (5, .iaload, 1), (6, .tableswitch 86 1 4 #[30, 44, 58, 72], 30), (36, .iload_n 2, 1), (37, .ifCond .eq 11, 3), (40, .iload_n 3, 1), (41, .ifCond .ne 7, 3), (44, .iconst 1, 1), (45, .goto 4, 3), (48, .iconst 0, 1), (49, .ireturn, 1), (50, .iload_n 2, 1), (51, .ifCond .ne 11, 3), (54, .iload_n 3, 1), (55, .ifCond .ne 7, 3), (58, .iconst 1, 1), (59, .goto 4, 3), (62, .iconst 0, 1), (63, .ireturn, 1), (64, .iload_n 2, 1), (65, .ifCond .ne 11, 3), (68, .iload_n 3, 1)] = true := by decide +kernel
theorem dX7_condHolds_0 : decode cX7_condHolds 0 = .ok (.aload_n 0, 1) := kq.at kqdX7_condHolds_0 0 rfl
theorem dX7_condHolds_1 : decode cX7_condHolds 1 = .ok (.getfield 28, 3) := kq.at kqdX7_condHolds_0 1 rfl
theorem dX7_condHolds_4 : decode cX7_condHolds 4 = .ok (.iload_n 1, 1) := kq.at kqdX7_condHolds_0 2 rfl
theorem dX7_condHolds_5 : decode cX7_condHolds 5 = .ok (.iaload, 1) := kq.at kqdX7_condHolds_0 3 rfl
theorem dX7_condHolds_6 : decode cX7_condHolds 6 = .ok (.tableswitch 86 1 4 #[30, 44, 58, 72], 30) := kq.at kqdX7_condHolds_0 4 rfl
theorem dX7_condHolds_36 : decode cX7_condHolds 36 = .ok (.iload_n 2, 1) := kq.at kqdX7_condHolds_0 5 rfl
theorem dX7_condHolds_37 : decode cX7_condHolds 37 = .ok (.ifCond .eq 11, 3) := kq.at kqdX7_condHolds_0 6 rfl
theorem dX7_condHolds_40 : decode cX7_condHolds 40 = .ok (.iload_n 3, 1) := kq.at kqdX7_condHolds_0 7 rfl
theorem dX7_condHolds_41 : decode cX7_condHolds 41 = .ok (.ifCond .ne 7, 3) := kq.at kqdX7_condHolds_0 8 rfl
theorem dX7_condHolds_44 : decode cX7_condHolds 44 = .ok (.iconst 1, 1) := kq.at kqdX7_condHolds_0 9 rfl
theorem dX7_condHolds_45 : decode cX7_condHolds 45 = .ok (.goto 4, 3) := kq.at kqdX7_condHolds_0 10 rfl
theorem dX7_condHolds_48 : decode cX7_condHolds 48 = .ok (.iconst 0, 1) := kq.at kqdX7_condHolds_0 11 rfl
theorem dX7_condHolds_49 : decode cX7_condHolds 49 = .ok (.ireturn, 1) := kq.at kqdX7_condHolds_0 12 rfl
theorem dX7_condHolds_50 : decode cX7_condHolds 50 = .ok (.iload_n 2, 1) := kq.at kqdX7_condHolds_0 13 rfl
theorem dX7_condHolds_51 : decode cX7_condHolds 51 = .ok (.ifCond .ne 11, 3) := kq.at kqdX7_condHolds_0 14 rfl
theorem dX7_condHolds_54 : decode cX7_condHolds 54 = .ok (.iload_n 3, 1) := kq.at kqdX7_condHolds_0 15 rfl
theorem dX7_condHolds_55 : decode cX7_condHolds 55 = .ok (.ifCond .ne 7, 3) := kq.at kqdX7_condHolds_0 16 rfl
theorem dX7_condHolds_58 : decode cX7_condHolds 58 = .ok (.iconst 1, 1) := kq.at kqdX7_condHolds_0 17 rfl
theorem dX7_condHolds_59 : decode cX7_condHolds 59 = .ok (.goto 4, 3) := kq.at kqdX7_condHolds_0 18 rfl
theorem dX7_condHolds_62 : decode cX7_condHolds 62 = .ok (.iconst 0, 1) := kq.at kqdX7_condHolds_0 19 rfl
theorem dX7_condHolds_63 : decode cX7_condHolds 63 = .ok (.ireturn, 1) := kq.at kqdX7_condHolds_0 20 rfl
theorem dX7_condHolds_64 : decode cX7_condHolds 64 = .ok (.iload_n 2, 1) := kq.at kqdX7_condHolds_0 21 rfl
theorem dX7_condHolds_65 : decode cX7_condHolds 65 = .ok (.ifCond .ne 11, 3) := kq.at kqdX7_condHolds_0 22 rfl
theorem dX7_condHolds_68 : decode cX7_condHolds 68 = .ok (.iload_n 3, 1) := kq.at kqdX7_condHolds_0 23 rfl
theorem kqdX7_condHolds_69 : kq cX7_condHolds [(69, .ifCond .eq 7, 3), (72, .iconst 1, 1), (73, .goto 4, 3), (76, .iconst 0, 1), (77, .ireturn, 1), (78, .iload_n 2, 1), (79, .ifCond .eq 11, 3), (82, .iload_n 3, 1), (83, .ifCond .eq 7, 3), (86, .iconst 1, 1), (87, .goto 4, 3), (90, .iconst 0, 1), (91, .ireturn, 1), (92, .iconst 1, 1), (93, .ireturn, 1)] = true := by decide +kernel
theorem dX7_condHolds_69 : decode cX7_condHolds 69 = .ok (.ifCond .eq 7, 3) := kq.at kqdX7_condHolds_69 0 rfl
theorem dX7_condHolds_72 : decode cX7_condHolds 72 = .ok (.iconst 1, 1) := kq.at kqdX7_condHolds_69 1 rfl
theorem dX7_condHolds_73 : decode cX7_condHolds 73 = .ok (.goto 4, 3) := kq.at kqdX7_condHolds_69 2 rfl
theorem dX7_condHolds_76 : decode cX7_condHolds 76 = .ok (.iconst 0, 1) := kq.at kqdX7_condHolds_69 3 rfl
theorem dX7_condHolds_77 : decode cX7_condHolds 77 = .ok (.ireturn, 1) := kq.at kqdX7_condHolds_69 4 rfl
theorem dX7_condHolds_78 : decode cX7_condHolds 78 = .ok (.iload_n 2, 1) := kq.at kqdX7_condHolds_69 5 rfl
theorem dX7_condHolds_79 : decode cX7_condHolds 79 = .ok (.ifCond .eq 11, 3) := kq.at kqdX7_condHolds_69 6 rfl
theorem dX7_condHolds_82 : decode cX7_condHolds 82 = .ok (.iload_n 3, 1) := kq.at kqdX7_condHolds_69 7 rfl
theorem dX7_condHolds_83 : decode cX7_condHolds 83 = .ok (.ifCond .eq 7, 3) := kq.at kqdX7_condHolds_69 8 rfl
theorem dX7_condHolds_86 : decode cX7_condHolds 86 = .ok (.iconst 1, 1) := kq.at kqdX7_condHolds_69 9 rfl
theorem dX7_condHolds_87 : decode cX7_condHolds 87 = .ok (.goto 4, 3) := kq.at kqdX7_condHolds_69 10 rfl
theorem dX7_condHolds_90 : decode cX7_condHolds 90 = .ok (.iconst 0, 1) := kq.at kqdX7_condHolds_69 11 rfl
theorem dX7_condHolds_91 : decode cX7_condHolds 91 = .ok (.ireturn, 1) := kq.at kqdX7_condHolds_69 12 rfl
theorem dX7_condHolds_92 : decode cX7_condHolds 92 = .ok (.iconst 1, 1) := kq.at kqdX7_condHolds_69 13 rfl
theorem dX7_condHolds_93 : decode cX7_condHolds 93 = .ok (.ireturn, 1) := kq.at kqdX7_condHolds_69 14 rfl
theorem kqdX7_mayStand_0 : kq cX7_mayStand [(0, .iload 5, 2), (2, .aload_n 0, 1), (3, .getfield 22, 3), (6, .iload_n 1, 1), (7, .iaload, 1), (8, .iadd, 1), (9, .istore 6, 2), (11, .iload 6, 2), (13, .iload 4, 2), (15, .if_icmp .gt 19, 3), (18, .aload_n 2, 1), (19, .iload 5, 2), (21, .iaload, 1), (22, .invokestatic 51, 3), (25, .aload_n 0, 1), (26, .iload_n 1, 1), (27, .iconst 0, 1), (28, .invokevirtual 47, 3), (31, .if_icmp .eq 5, 3), (34, .iconst 0, 1), (35, .ireturn, 1), (36, .iload 5, 2), (38, .iconst 1, 1), (39, .iadd, 1)] = true := by decide +kernel
theorem dX7_mayStand_0 : decode cX7_mayStand 0 = .ok (.iload 5, 2) := kq.at kqdX7_mayStand_0 0 rfl
theorem dX7_mayStand_2 : decode cX7_mayStand 2 = .ok (.aload_n 0, 1) := kq.at kqdX7_mayStand_0 1 rfl
theorem dX7_mayStand_3 : decode cX7_mayStand 3 = .ok (.getfield 22, 3) := kq.at kqdX7_mayStand_0 2 rfl
theorem dX7_mayStand_6 : decode cX7_mayStand 6 = .ok (.iload_n 1, 1) := kq.at kqdX7_mayStand_0 3 rfl
theorem dX7_mayStand_7 : decode cX7_mayStand 7 = .ok (.iaload, 1) := kq.at kqdX7_mayStand_0 4 rfl
theorem dX7_mayStand_8 : decode cX7_mayStand 8 = .ok (.iadd, 1) := kq.at kqdX7_mayStand_0 5 rfl
theorem dX7_mayStand_9 : decode cX7_mayStand 9 = .ok (.istore 6, 2) := kq.at kqdX7_mayStand_0 6 rfl
theorem dX7_mayStand_11 : decode cX7_mayStand 11 = .ok (.iload 6, 2) := kq.at kqdX7_mayStand_0 7 rfl
theorem dX7_mayStand_13 : decode cX7_mayStand 13 = .ok (.iload 4, 2) := kq.at kqdX7_mayStand_0 8 rfl
theorem dX7_mayStand_15 : decode cX7_mayStand 15 = .ok (.if_icmp .gt 19, 3) := kq.at kqdX7_mayStand_0 9 rfl
theorem dX7_mayStand_18 : decode cX7_mayStand 18 = .ok (.aload_n 2, 1) := kq.at kqdX7_mayStand_0 10 rfl
theorem dX7_mayStand_19 : decode cX7_mayStand 19 = .ok (.iload 5, 2) := kq.at kqdX7_mayStand_0 11 rfl
theorem dX7_mayStand_21 : decode cX7_mayStand 21 = .ok (.iaload, 1) := kq.at kqdX7_mayStand_0 12 rfl
theorem dX7_mayStand_22 : decode cX7_mayStand 22 = .ok (.invokestatic 51, 3) := kq.at kqdX7_mayStand_0 13 rfl
theorem dX7_mayStand_25 : decode cX7_mayStand 25 = .ok (.aload_n 0, 1) := kq.at kqdX7_mayStand_0 14 rfl
theorem dX7_mayStand_26 : decode cX7_mayStand 26 = .ok (.iload_n 1, 1) := kq.at kqdX7_mayStand_0 15 rfl
theorem dX7_mayStand_27 : decode cX7_mayStand 27 = .ok (.iconst 0, 1) := kq.at kqdX7_mayStand_0 16 rfl
theorem dX7_mayStand_28 : decode cX7_mayStand 28 = .ok (.invokevirtual 47, 3) := kq.at kqdX7_mayStand_0 17 rfl
theorem dX7_mayStand_31 : decode cX7_mayStand 31 = .ok (.if_icmp .eq 5, 3) := kq.at kqdX7_mayStand_0 18 rfl
theorem dX7_mayStand_34 : decode cX7_mayStand 34 = .ok (.iconst 0, 1) := kq.at kqdX7_mayStand_0 19 rfl
theorem dX7_mayStand_35 : decode cX7_mayStand 35 = .ok (.ireturn, 1) := kq.at kqdX7_mayStand_0 20 rfl
theorem dX7_mayStand_36 : decode cX7_mayStand 36 = .ok (.iload 5, 2) := kq.at kqdX7_mayStand_0 21 rfl
theorem dX7_mayStand_38 : decode cX7_mayStand 38 = .ok (.iconst 1, 1) := kq.at kqdX7_mayStand_0 22 rfl
theorem dX7_mayStand_39 : decode cX7_mayStand 39 = .ok (.iadd, 1) := kq.at kqdX7_mayStand_0 23 rfl
theorem kqdX7_mayStand_40 : kq cX7_mayStand [(40, .istore 7, 2), (42, .iload 7, 2), (44, .iload 6, 2), (46, .if_icmp .ge 41, 3), (49, .aload_n 2, 1), (50, .iload 7, 2), (52, .iaload, 1), (53, .invokestatic 55, 3), (56, .ifCond .ne 23, 3), (59, .aload_n 2, 1), (60, .iload 7, 2), (62, .iaload, 1), (63, .invokestatic 51, 3), (66, .aload_n 0, 1), (67, .iload_n 1, 1), (68, .iload 7, 2), (70, .iload 5, 2), (72, .isub, 1), (73, .invokevirtual 47, 3), (76, .if_icmp .eq 5, 3), (79, .iconst 0, 1), (80, .ireturn, 1), (81, .iinc 7 1, 3), (84, .goto (-42), 3)] = true := by decide +kernel
theorem dX7_mayStand_40 : decode cX7_mayStand 40 = .ok (.istore 7, 2) := kq.at kqdX7_mayStand_40 0 rfl
theorem dX7_mayStand_42 : decode cX7_mayStand 42 = .ok (.iload 7, 2) := kq.at kqdX7_mayStand_40 1 rfl
theorem dX7_mayStand_44 : decode cX7_mayStand 44 = .ok (.iload 6, 2) := kq.at kqdX7_mayStand_40 2 rfl
theorem dX7_mayStand_46 : decode cX7_mayStand 46 = .ok (.if_icmp .ge 41, 3) := kq.at kqdX7_mayStand_40 3 rfl
theorem dX7_mayStand_49 : decode cX7_mayStand 49 = .ok (.aload_n 2, 1) := kq.at kqdX7_mayStand_40 4 rfl
theorem dX7_mayStand_50 : decode cX7_mayStand 50 = .ok (.iload 7, 2) := kq.at kqdX7_mayStand_40 5 rfl
theorem dX7_mayStand_52 : decode cX7_mayStand 52 = .ok (.iaload, 1) := kq.at kqdX7_mayStand_40 6 rfl
theorem dX7_mayStand_53 : decode cX7_mayStand 53 = .ok (.invokestatic 55, 3) := kq.at kqdX7_mayStand_40 7 rfl
theorem dX7_mayStand_56 : decode cX7_mayStand 56 = .ok (.ifCond .ne 23, 3) := kq.at kqdX7_mayStand_40 8 rfl
theorem dX7_mayStand_59 : decode cX7_mayStand 59 = .ok (.aload_n 2, 1) := kq.at kqdX7_mayStand_40 9 rfl
theorem dX7_mayStand_60 : decode cX7_mayStand 60 = .ok (.iload 7, 2) := kq.at kqdX7_mayStand_40 10 rfl
theorem dX7_mayStand_62 : decode cX7_mayStand 62 = .ok (.iaload, 1) := kq.at kqdX7_mayStand_40 11 rfl
theorem dX7_mayStand_63 : decode cX7_mayStand 63 = .ok (.invokestatic 51, 3) := kq.at kqdX7_mayStand_40 12 rfl
theorem dX7_mayStand_66 : decode cX7_mayStand 66 = .ok (.aload_n 0, 1) := kq.at kqdX7_mayStand_40 13 rfl
theorem dX7_mayStand_67 : decode cX7_mayStand 67 = .ok (.iload_n 1, 1) := kq.at kqdX7_mayStand_40 14 rfl
theorem dX7_mayStand_68 : decode cX7_mayStand 68 = .ok (.iload 7, 2) := kq.at kqdX7_mayStand_40 15 rfl
theorem dX7_mayStand_70 : decode cX7_mayStand 70 = .ok (.iload 5, 2) := kq.at kqdX7_mayStand_40 16 rfl
theorem dX7_mayStand_72 : decode cX7_mayStand 72 = .ok (.isub, 1) := kq.at kqdX7_mayStand_40 17 rfl
theorem dX7_mayStand_73 : decode cX7_mayStand 73 = .ok (.invokevirtual 47, 3) := kq.at kqdX7_mayStand_40 18 rfl
theorem dX7_mayStand_76 : decode cX7_mayStand 76 = .ok (.if_icmp .eq 5, 3) := kq.at kqdX7_mayStand_40 19 rfl
theorem dX7_mayStand_79 : decode cX7_mayStand 79 = .ok (.iconst 0, 1) := kq.at kqdX7_mayStand_40 20 rfl
theorem dX7_mayStand_80 : decode cX7_mayStand 80 = .ok (.ireturn, 1) := kq.at kqdX7_mayStand_40 21 rfl
theorem dX7_mayStand_81 : decode cX7_mayStand 81 = .ok (.iinc 7 1, 3) := kq.at kqdX7_mayStand_40 22 rfl
theorem dX7_mayStand_84 : decode cX7_mayStand 84 = .ok (.goto (-42), 3) := kq.at kqdX7_mayStand_40 23 rfl
theorem kqdX7_mayStand_87 : kq cX7_mayStand [(87, .aload_n 0, 1), (88, .iload_n 1, 1), (89, .iload 5, 2), (91, .iload_n 3, 1), (92, .if_icmp .ne 7, 3), (95, .iconst 1, 1), (96, .goto 4, 3), (99, .iconst 0, 1), (100, .iload 6, 2), (102, .iload 4, 2), (104, .if_icmp .ne 7, 3), (107, .iconst 1, 1), (108, .goto 4, 3), (111, .iconst 0, 1), (112, .invokevirtual 59, 3), (115, .ireturn, 1)] = true := by decide +kernel
theorem dX7_mayStand_87 : decode cX7_mayStand 87 = .ok (.aload_n 0, 1) := kq.at kqdX7_mayStand_87 0 rfl
theorem dX7_mayStand_88 : decode cX7_mayStand 88 = .ok (.iload_n 1, 1) := kq.at kqdX7_mayStand_87 1 rfl
theorem dX7_mayStand_89 : decode cX7_mayStand 89 = .ok (.iload 5, 2) := kq.at kqdX7_mayStand_87 2 rfl
theorem dX7_mayStand_91 : decode cX7_mayStand 91 = .ok (.iload_n 3, 1) := kq.at kqdX7_mayStand_87 3 rfl
theorem dX7_mayStand_92 : decode cX7_mayStand 92 = .ok (.if_icmp .ne 7, 3) := kq.at kqdX7_mayStand_87 4 rfl
theorem dX7_mayStand_95 : decode cX7_mayStand 95 = .ok (.iconst 1, 1) := kq.at kqdX7_mayStand_87 5 rfl
theorem dX7_mayStand_96 : decode cX7_mayStand 96 = .ok (.goto 4, 3) := kq.at kqdX7_mayStand_87 6 rfl
theorem dX7_mayStand_99 : decode cX7_mayStand 99 = .ok (.iconst 0, 1) := kq.at kqdX7_mayStand_87 7 rfl
theorem dX7_mayStand_100 : decode cX7_mayStand 100 = .ok (.iload 6, 2) := kq.at kqdX7_mayStand_87 8 rfl
theorem dX7_mayStand_102 : decode cX7_mayStand 102 = .ok (.iload 4, 2) := kq.at kqdX7_mayStand_87 9 rfl
theorem dX7_mayStand_104 : decode cX7_mayStand 104 = .ok (.if_icmp .ne 7, 3) := kq.at kqdX7_mayStand_87 10 rfl
theorem dX7_mayStand_107 : decode cX7_mayStand 107 = .ok (.iconst 1, 1) := kq.at kqdX7_mayStand_87 11 rfl
theorem dX7_mayStand_108 : decode cX7_mayStand 108 = .ok (.goto 4, 3) := kq.at kqdX7_mayStand_87 12 rfl
theorem dX7_mayStand_111 : decode cX7_mayStand 111 = .ok (.iconst 0, 1) := kq.at kqdX7_mayStand_87 13 rfl
theorem dX7_mayStand_112 : decode cX7_mayStand 112 = .ok (.invokevirtual 59, 3) := kq.at kqdX7_mayStand_87 14 rfl
theorem dX7_mayStand_115 : decode cX7_mayStand 115 = .ok (.ireturn, 1) := kq.at kqdX7_mayStand_87 15 rfl
theorem kqdX7_longestRule_0 : kq cX7_longestRule [(0, .iconst (-1), 1), (1, .istore 6, 2), (3, .iconst 0, 1), (4, .istore 7, 2), (6, .iconst 0, 1), (7, .istore 8, 2), (9, .iload 8, 2), (11, .aload_n 0, 1), (12, .getfield 9, 3), (15, .if_icmp .ge 70, 3), (18, .aload_n 0, 1), (19, .getfield 22, 3), (22, .iload 8, 2), (24, .iaload, 1), (25, .iload 7, 2), (27, .if_icmp .le 17, 3), (30, .iload 8, 2), (32, .iload 5, 2), (34, .invokestatic 43, 3), (37, .ifCond .eq 7, 3), (40, .iconst 1, 1), (41, .goto 4, 3), (44, .iconst 0, 1), (45, .istore 9, 2)] = true := by decide +kernel
theorem dX7_longestRule_0 : decode cX7_longestRule 0 = .ok (.iconst (-1), 1) := kq.at kqdX7_longestRule_0 0 rfl
theorem dX7_longestRule_1 : decode cX7_longestRule 1 = .ok (.istore 6, 2) := kq.at kqdX7_longestRule_0 1 rfl
theorem dX7_longestRule_3 : decode cX7_longestRule 3 = .ok (.iconst 0, 1) := kq.at kqdX7_longestRule_0 2 rfl
theorem dX7_longestRule_4 : decode cX7_longestRule 4 = .ok (.istore 7, 2) := kq.at kqdX7_longestRule_0 3 rfl
theorem dX7_longestRule_6 : decode cX7_longestRule 6 = .ok (.iconst 0, 1) := kq.at kqdX7_longestRule_0 4 rfl
theorem dX7_longestRule_7 : decode cX7_longestRule 7 = .ok (.istore 8, 2) := kq.at kqdX7_longestRule_0 5 rfl
theorem dX7_longestRule_9 : decode cX7_longestRule 9 = .ok (.iload 8, 2) := kq.at kqdX7_longestRule_0 6 rfl
theorem dX7_longestRule_11 : decode cX7_longestRule 11 = .ok (.aload_n 0, 1) := kq.at kqdX7_longestRule_0 7 rfl
theorem dX7_longestRule_12 : decode cX7_longestRule 12 = .ok (.getfield 9, 3) := kq.at kqdX7_longestRule_0 8 rfl
theorem dX7_longestRule_15 : decode cX7_longestRule 15 = .ok (.if_icmp .ge 70, 3) := kq.at kqdX7_longestRule_0 9 rfl
theorem dX7_longestRule_18 : decode cX7_longestRule 18 = .ok (.aload_n 0, 1) := kq.at kqdX7_longestRule_0 10 rfl
theorem dX7_longestRule_19 : decode cX7_longestRule 19 = .ok (.getfield 22, 3) := kq.at kqdX7_longestRule_0 11 rfl
theorem dX7_longestRule_22 : decode cX7_longestRule 22 = .ok (.iload 8, 2) := kq.at kqdX7_longestRule_0 12 rfl
theorem dX7_longestRule_24 : decode cX7_longestRule 24 = .ok (.iaload, 1) := kq.at kqdX7_longestRule_0 13 rfl
theorem dX7_longestRule_25 : decode cX7_longestRule 25 = .ok (.iload 7, 2) := kq.at kqdX7_longestRule_0 14 rfl
theorem dX7_longestRule_27 : decode cX7_longestRule 27 = .ok (.if_icmp .le 17, 3) := kq.at kqdX7_longestRule_0 15 rfl
theorem dX7_longestRule_30 : decode cX7_longestRule 30 = .ok (.iload 8, 2) := kq.at kqdX7_longestRule_0 16 rfl
theorem dX7_longestRule_32 : decode cX7_longestRule 32 = .ok (.iload 5, 2) := kq.at kqdX7_longestRule_0 17 rfl
theorem dX7_longestRule_34 : decode cX7_longestRule 34 = .ok (.invokestatic 43, 3) := kq.at kqdX7_longestRule_0 18 rfl
theorem dX7_longestRule_37 : decode cX7_longestRule 37 = .ok (.ifCond .eq 7, 3) := kq.at kqdX7_longestRule_0 19 rfl
theorem dX7_longestRule_40 : decode cX7_longestRule 40 = .ok (.iconst 1, 1) := kq.at kqdX7_longestRule_0 20 rfl
theorem dX7_longestRule_41 : decode cX7_longestRule 41 = .ok (.goto 4, 3) := kq.at kqdX7_longestRule_0 21 rfl
theorem dX7_longestRule_44 : decode cX7_longestRule 44 = .ok (.iconst 0, 1) := kq.at kqdX7_longestRule_0 22 rfl
theorem dX7_longestRule_45 : decode cX7_longestRule 45 = .ok (.istore 9, 2) := kq.at kqdX7_longestRule_0 23 rfl
theorem kqdX7_longestRule_47 : kq cX7_longestRule [(47, .iload 9, 2), (49, .ifCond .eq 30, 3), (52, .aload_n 0, 1), (53, .iload 8, 2), (55, .aload_n 1, 1), (56, .iload_n 2, 1), (57, .iload_n 3, 1), (58, .iload 4, 2), (60, .invokevirtual 63, 3), (63, .ifCond .eq 16, 3), (66, .iload 8, 2), (68, .istore 6, 2), (70, .aload_n 0, 1), (71, .getfield 22, 3), (74, .iload 8, 2), (76, .iaload, 1), (77, .istore 7, 2), (79, .iinc 8 1, 3), (82, .goto (-73), 3), (85, .iload 6, 2), (87, .ireturn, 1)] = true := by decide +kernel
theorem dX7_longestRule_47 : decode cX7_longestRule 47 = .ok (.iload 9, 2) := kq.at kqdX7_longestRule_47 0 rfl
theorem dX7_longestRule_49 : decode cX7_longestRule 49 = .ok (.ifCond .eq 30, 3) := kq.at kqdX7_longestRule_47 1 rfl
theorem dX7_longestRule_52 : decode cX7_longestRule 52 = .ok (.aload_n 0, 1) := kq.at kqdX7_longestRule_47 2 rfl
theorem dX7_longestRule_53 : decode cX7_longestRule 53 = .ok (.iload 8, 2) := kq.at kqdX7_longestRule_47 3 rfl
theorem dX7_longestRule_55 : decode cX7_longestRule 55 = .ok (.aload_n 1, 1) := kq.at kqdX7_longestRule_47 4 rfl
theorem dX7_longestRule_56 : decode cX7_longestRule 56 = .ok (.iload_n 2, 1) := kq.at kqdX7_longestRule_47 5 rfl
theorem dX7_longestRule_57 : decode cX7_longestRule 57 = .ok (.iload_n 3, 1) := kq.at kqdX7_longestRule_47 6 rfl
theorem dX7_longestRule_58 : decode cX7_longestRule 58 = .ok (.iload 4, 2) := kq.at kqdX7_longestRule_47 7 rfl
theorem dX7_longestRule_60 : decode cX7_longestRule 60 = .ok (.invokevirtual 63, 3) := kq.at kqdX7_longestRule_47 8 rfl
theorem dX7_longestRule_63 : decode cX7_longestRule 63 = .ok (.ifCond .eq 16, 3) := kq.at kqdX7_longestRule_47 9 rfl
theorem dX7_longestRule_66 : decode cX7_longestRule 66 = .ok (.iload 8, 2) := kq.at kqdX7_longestRule_47 10 rfl
theorem dX7_longestRule_68 : decode cX7_longestRule 68 = .ok (.istore 6, 2) := kq.at kqdX7_longestRule_47 11 rfl
theorem dX7_longestRule_70 : decode cX7_longestRule 70 = .ok (.aload_n 0, 1) := kq.at kqdX7_longestRule_47 12 rfl
theorem dX7_longestRule_71 : decode cX7_longestRule 71 = .ok (.getfield 22, 3) := kq.at kqdX7_longestRule_47 13 rfl
theorem dX7_longestRule_74 : decode cX7_longestRule 74 = .ok (.iload 8, 2) := kq.at kqdX7_longestRule_47 14 rfl
theorem dX7_longestRule_76 : decode cX7_longestRule 76 = .ok (.iaload, 1) := kq.at kqdX7_longestRule_47 15 rfl
theorem dX7_longestRule_77 : decode cX7_longestRule 77 = .ok (.istore 7, 2) := kq.at kqdX7_longestRule_47 16 rfl
theorem dX7_longestRule_79 : decode cX7_longestRule 79 = .ok (.iinc 8 1, 3) := kq.at kqdX7_longestRule_47 17 rfl
theorem dX7_longestRule_82 : decode cX7_longestRule 82 = .ok (.goto (-73), 3) := kq.at kqdX7_longestRule_47 18 rfl
theorem dX7_longestRule_85 : decode cX7_longestRule 85 = .ok (.iload 6, 2) := kq.at kqdX7_longestRule_47 19 rfl
theorem dX7_longestRule_87 : decode cX7_longestRule 87 = .ok (.ireturn, 1) := kq.at kqdX7_longestRule_47 20 rfl
theorem kqdX7_plainRule_0 : kq cX7_plainRule [(0, .iconst 0, 1), (1, .istore_n 3, 1), (2, .iload_n 3, 1), (3, .aload_n 0, 1), (4, .getfield 9, 3), (7, .if_icmp .ge 60, 3), (10, .aload_n 0, 1), (11, .getfield 22, 3), (14, .iload_n 3, 1), (15, .iaload, 1), (16, .iconst 1, 1), (17, .if_icmp .ne 26, 3), (20, .aload_n 0, 1), (21, .getfield 28, 3), (24, .iload_n 3, 1), (25, .iaload, 1), (26, .ifCond .ne 17, 3), (29, .aload_n 0, 1), (30, .iload_n 3, 1), (31, .iconst 0, 1), (32, .invokevirtual 47, 3), (35, .iload_n 1, 1), (36, .if_icmp .ne 7, 3), (39, .iconst 1, 1)] = true := by decide +kernel
theorem dX7_plainRule_0 : decode cX7_plainRule 0 = .ok (.iconst 0, 1) := kq.at kqdX7_plainRule_0 0 rfl
theorem dX7_plainRule_1 : decode cX7_plainRule 1 = .ok (.istore_n 3, 1) := kq.at kqdX7_plainRule_0 1 rfl
theorem dX7_plainRule_2 : decode cX7_plainRule 2 = .ok (.iload_n 3, 1) := kq.at kqdX7_plainRule_0 2 rfl
theorem dX7_plainRule_3 : decode cX7_plainRule 3 = .ok (.aload_n 0, 1) := kq.at kqdX7_plainRule_0 3 rfl
theorem dX7_plainRule_4 : decode cX7_plainRule 4 = .ok (.getfield 9, 3) := kq.at kqdX7_plainRule_0 4 rfl
theorem dX7_plainRule_7 : decode cX7_plainRule 7 = .ok (.if_icmp .ge 60, 3) := kq.at kqdX7_plainRule_0 5 rfl
theorem dX7_plainRule_10 : decode cX7_plainRule 10 = .ok (.aload_n 0, 1) := kq.at kqdX7_plainRule_0 6 rfl
theorem dX7_plainRule_11 : decode cX7_plainRule 11 = .ok (.getfield 22, 3) := kq.at kqdX7_plainRule_0 7 rfl
theorem dX7_plainRule_14 : decode cX7_plainRule 14 = .ok (.iload_n 3, 1) := kq.at kqdX7_plainRule_0 8 rfl
theorem dX7_plainRule_15 : decode cX7_plainRule 15 = .ok (.iaload, 1) := kq.at kqdX7_plainRule_0 9 rfl
theorem dX7_plainRule_16 : decode cX7_plainRule 16 = .ok (.iconst 1, 1) := kq.at kqdX7_plainRule_0 10 rfl
theorem dX7_plainRule_17 : decode cX7_plainRule 17 = .ok (.if_icmp .ne 26, 3) := kq.at kqdX7_plainRule_0 11 rfl
theorem dX7_plainRule_20 : decode cX7_plainRule 20 = .ok (.aload_n 0, 1) := kq.at kqdX7_plainRule_0 12 rfl
theorem dX7_plainRule_21 : decode cX7_plainRule 21 = .ok (.getfield 28, 3) := kq.at kqdX7_plainRule_0 13 rfl
theorem dX7_plainRule_24 : decode cX7_plainRule 24 = .ok (.iload_n 3, 1) := kq.at kqdX7_plainRule_0 14 rfl
theorem dX7_plainRule_25 : decode cX7_plainRule 25 = .ok (.iaload, 1) := kq.at kqdX7_plainRule_0 15 rfl
theorem dX7_plainRule_26 : decode cX7_plainRule 26 = .ok (.ifCond .ne 17, 3) := kq.at kqdX7_plainRule_0 16 rfl
theorem dX7_plainRule_29 : decode cX7_plainRule 29 = .ok (.aload_n 0, 1) := kq.at kqdX7_plainRule_0 17 rfl
theorem dX7_plainRule_30 : decode cX7_plainRule 30 = .ok (.iload_n 3, 1) := kq.at kqdX7_plainRule_0 18 rfl
theorem dX7_plainRule_31 : decode cX7_plainRule 31 = .ok (.iconst 0, 1) := kq.at kqdX7_plainRule_0 19 rfl
theorem dX7_plainRule_32 : decode cX7_plainRule 32 = .ok (.invokevirtual 47, 3) := kq.at kqdX7_plainRule_0 20 rfl
theorem dX7_plainRule_35 : decode cX7_plainRule 35 = .ok (.iload_n 1, 1) := kq.at kqdX7_plainRule_0 21 rfl
theorem dX7_plainRule_36 : decode cX7_plainRule 36 = .ok (.if_icmp .ne 7, 3) := kq.at kqdX7_plainRule_0 22 rfl
theorem dX7_plainRule_39 : decode cX7_plainRule 39 = .ok (.iconst 1, 1) := kq.at kqdX7_plainRule_0 23 rfl
theorem kqdX7_plainRule_40 : kq cX7_plainRule [(40, .goto 4, 3), (43, .iconst 0, 1), (44, .istore 4, 2), (46, .iload 4, 2), (48, .ifCond .eq 13, 3), (51, .iload_n 3, 1), (52, .iload_n 2, 1), (53, .invokestatic 43, 3), (56, .ifCond .eq 5, 3), (59, .iload_n 3, 1), (60, .ireturn, 1), (61, .iinc 3 1, 3), (64, .goto (-62), 3), (67, .iconst (-1), 1), (68, .ireturn, 1)] = true := by decide +kernel
theorem dX7_plainRule_40 : decode cX7_plainRule 40 = .ok (.goto 4, 3) := kq.at kqdX7_plainRule_40 0 rfl
theorem dX7_plainRule_43 : decode cX7_plainRule 43 = .ok (.iconst 0, 1) := kq.at kqdX7_plainRule_40 1 rfl
theorem dX7_plainRule_44 : decode cX7_plainRule 44 = .ok (.istore 4, 2) := kq.at kqdX7_plainRule_40 2 rfl
theorem dX7_plainRule_46 : decode cX7_plainRule 46 = .ok (.iload 4, 2) := kq.at kqdX7_plainRule_40 3 rfl
theorem dX7_plainRule_48 : decode cX7_plainRule 48 = .ok (.ifCond .eq 13, 3) := kq.at kqdX7_plainRule_40 4 rfl
theorem dX7_plainRule_51 : decode cX7_plainRule 51 = .ok (.iload_n 3, 1) := kq.at kqdX7_plainRule_40 5 rfl
theorem dX7_plainRule_52 : decode cX7_plainRule 52 = .ok (.iload_n 2, 1) := kq.at kqdX7_plainRule_40 6 rfl
theorem dX7_plainRule_53 : decode cX7_plainRule 53 = .ok (.invokestatic 43, 3) := kq.at kqdX7_plainRule_40 7 rfl
theorem dX7_plainRule_56 : decode cX7_plainRule 56 = .ok (.ifCond .eq 5, 3) := kq.at kqdX7_plainRule_40 8 rfl
theorem dX7_plainRule_59 : decode cX7_plainRule 59 = .ok (.iload_n 3, 1) := kq.at kqdX7_plainRule_40 9 rfl
theorem dX7_plainRule_60 : decode cX7_plainRule 60 = .ok (.ireturn, 1) := kq.at kqdX7_plainRule_40 10 rfl
theorem dX7_plainRule_61 : decode cX7_plainRule 61 = .ok (.iinc 3 1, 3) := kq.at kqdX7_plainRule_40 11 rfl
theorem dX7_plainRule_64 : decode cX7_plainRule 64 = .ok (.goto (-62), 3) := kq.at kqdX7_plainRule_40 12 rfl
theorem dX7_plainRule_67 : decode cX7_plainRule 67 = .ok (.iconst (-1), 1) := kq.at kqdX7_plainRule_40 13 rfl
theorem dX7_plainRule_68 : decode cX7_plainRule 68 = .ok (.ireturn, 1) := kq.at kqdX7_plainRule_40 14 rfl
theorem kqdX7_begins_0 : kq cX7_begins [(0, .aload_n 0, 1), (1, .getfield 25, 3), (4, .iload_n 1, 1), (5, .iaload, 1), (6, .aload_n 0, 1), (7, .getfield 25, 3), (10, .iload_n 2, 1), (11, .iaload, 1), (12, .if_icmp .gt 24, 3), (15, .aload_n 0, 1), (16, .iload_n 1, 1), (17, .iconst 0, 1), (18, .iload_n 2, 1), (19, .iconst 0, 1), (20, .aload_n 0, 1), (21, .getfield 25, 3), (24, .iload_n 1, 1), (25, .iaload, 1), (26, .invokevirtual 67, 3), (29, .ifCond .eq 7, 3), (32, .iconst 1, 1), (33, .goto 4, 3), (36, .iconst 0, 1), (37, .ireturn, 1)] = true := by decide +kernel
theorem dX7_begins_0 : decode cX7_begins 0 = .ok (.aload_n 0, 1) := kq.at kqdX7_begins_0 0 rfl
theorem dX7_begins_1 : decode cX7_begins 1 = .ok (.getfield 25, 3) := kq.at kqdX7_begins_0 1 rfl
theorem dX7_begins_4 : decode cX7_begins 4 = .ok (.iload_n 1, 1) := kq.at kqdX7_begins_0 2 rfl
theorem dX7_begins_5 : decode cX7_begins 5 = .ok (.iaload, 1) := kq.at kqdX7_begins_0 3 rfl
theorem dX7_begins_6 : decode cX7_begins 6 = .ok (.aload_n 0, 1) := kq.at kqdX7_begins_0 4 rfl
theorem dX7_begins_7 : decode cX7_begins 7 = .ok (.getfield 25, 3) := kq.at kqdX7_begins_0 5 rfl
theorem dX7_begins_10 : decode cX7_begins 10 = .ok (.iload_n 2, 1) := kq.at kqdX7_begins_0 6 rfl
theorem dX7_begins_11 : decode cX7_begins 11 = .ok (.iaload, 1) := kq.at kqdX7_begins_0 7 rfl
theorem dX7_begins_12 : decode cX7_begins 12 = .ok (.if_icmp .gt 24, 3) := kq.at kqdX7_begins_0 8 rfl
theorem dX7_begins_15 : decode cX7_begins 15 = .ok (.aload_n 0, 1) := kq.at kqdX7_begins_0 9 rfl
theorem dX7_begins_16 : decode cX7_begins 16 = .ok (.iload_n 1, 1) := kq.at kqdX7_begins_0 10 rfl
theorem dX7_begins_17 : decode cX7_begins 17 = .ok (.iconst 0, 1) := kq.at kqdX7_begins_0 11 rfl
theorem dX7_begins_18 : decode cX7_begins 18 = .ok (.iload_n 2, 1) := kq.at kqdX7_begins_0 12 rfl
theorem dX7_begins_19 : decode cX7_begins 19 = .ok (.iconst 0, 1) := kq.at kqdX7_begins_0 13 rfl
theorem dX7_begins_20 : decode cX7_begins 20 = .ok (.aload_n 0, 1) := kq.at kqdX7_begins_0 14 rfl
theorem dX7_begins_21 : decode cX7_begins 21 = .ok (.getfield 25, 3) := kq.at kqdX7_begins_0 15 rfl
theorem dX7_begins_24 : decode cX7_begins 24 = .ok (.iload_n 1, 1) := kq.at kqdX7_begins_0 16 rfl
theorem dX7_begins_25 : decode cX7_begins 25 = .ok (.iaload, 1) := kq.at kqdX7_begins_0 17 rfl
theorem dX7_begins_26 : decode cX7_begins 26 = .ok (.invokevirtual 67, 3) := kq.at kqdX7_begins_0 18 rfl
theorem dX7_begins_29 : decode cX7_begins 29 = .ok (.ifCond .eq 7, 3) := kq.at kqdX7_begins_0 19 rfl
theorem dX7_begins_32 : decode cX7_begins 32 = .ok (.iconst 1, 1) := kq.at kqdX7_begins_0 20 rfl
theorem dX7_begins_33 : decode cX7_begins 33 = .ok (.goto 4, 3) := kq.at kqdX7_begins_0 21 rfl
theorem dX7_begins_36 : decode cX7_begins 36 = .ok (.iconst 0, 1) := kq.at kqdX7_begins_0 22 rfl
theorem dX7_begins_37 : decode cX7_begins 37 = .ok (.ireturn, 1) := kq.at kqdX7_begins_0 23 rfl
theorem kqdX7_areAlike_0 : kq cX7_areAlike [(0, .iconst 0, 1), (1, .istore 6, 2), (3, .iload 6, 2), (5, .iload 5, 2), (7, .if_icmp .ge 33, 3), (10, .aload_n 0, 1), (11, .iload_n 1, 1), (12, .iload_n 2, 1), (13, .iload 6, 2), (15, .iadd, 1), (16, .invokevirtual 71, 3), (19, .aload_n 0, 1), (20, .iload_n 3, 1), (21, .iload 4, 2), (23, .iload 6, 2), (25, .iadd, 1), (26, .invokevirtual 71, 3), (29, .if_icmp .eq 5, 3), (32, .iconst 0, 1), (33, .ireturn, 1), (34, .iinc 6 1, 3), (37, .goto (-34), 3), (40, .iconst 1, 1), (41, .ireturn, 1)] = true := by decide +kernel
theorem dX7_areAlike_0 : decode cX7_areAlike 0 = .ok (.iconst 0, 1) := kq.at kqdX7_areAlike_0 0 rfl
theorem dX7_areAlike_1 : decode cX7_areAlike 1 = .ok (.istore 6, 2) := kq.at kqdX7_areAlike_0 1 rfl
theorem dX7_areAlike_3 : decode cX7_areAlike 3 = .ok (.iload 6, 2) := kq.at kqdX7_areAlike_0 2 rfl
theorem dX7_areAlike_5 : decode cX7_areAlike 5 = .ok (.iload 5, 2) := kq.at kqdX7_areAlike_0 3 rfl
theorem dX7_areAlike_7 : decode cX7_areAlike 7 = .ok (.if_icmp .ge 33, 3) := kq.at kqdX7_areAlike_0 4 rfl
theorem dX7_areAlike_10 : decode cX7_areAlike 10 = .ok (.aload_n 0, 1) := kq.at kqdX7_areAlike_0 5 rfl
theorem dX7_areAlike_11 : decode cX7_areAlike 11 = .ok (.iload_n 1, 1) := kq.at kqdX7_areAlike_0 6 rfl
theorem dX7_areAlike_12 : decode cX7_areAlike 12 = .ok (.iload_n 2, 1) := kq.at kqdX7_areAlike_0 7 rfl
theorem dX7_areAlike_13 : decode cX7_areAlike 13 = .ok (.iload 6, 2) := kq.at kqdX7_areAlike_0 8 rfl
theorem dX7_areAlike_15 : decode cX7_areAlike 15 = .ok (.iadd, 1) := kq.at kqdX7_areAlike_0 9 rfl
theorem dX7_areAlike_16 : decode cX7_areAlike 16 = .ok (.invokevirtual 71, 3) := kq.at kqdX7_areAlike_0 10 rfl
theorem dX7_areAlike_19 : decode cX7_areAlike 19 = .ok (.aload_n 0, 1) := kq.at kqdX7_areAlike_0 11 rfl
theorem dX7_areAlike_20 : decode cX7_areAlike 20 = .ok (.iload_n 3, 1) := kq.at kqdX7_areAlike_0 12 rfl
theorem dX7_areAlike_21 : decode cX7_areAlike 21 = .ok (.iload 4, 2) := kq.at kqdX7_areAlike_0 13 rfl
theorem dX7_areAlike_23 : decode cX7_areAlike 23 = .ok (.iload 6, 2) := kq.at kqdX7_areAlike_0 14 rfl
theorem dX7_areAlike_25 : decode cX7_areAlike 25 = .ok (.iadd, 1) := kq.at kqdX7_areAlike_0 15 rfl
theorem dX7_areAlike_26 : decode cX7_areAlike 26 = .ok (.invokevirtual 71, 3) := kq.at kqdX7_areAlike_0 16 rfl
theorem dX7_areAlike_29 : decode cX7_areAlike 29 = .ok (.if_icmp .eq 5, 3) := kq.at kqdX7_areAlike_0 17 rfl
theorem dX7_areAlike_32 : decode cX7_areAlike 32 = .ok (.iconst 0, 1) := kq.at kqdX7_areAlike_0 18 rfl
theorem dX7_areAlike_33 : decode cX7_areAlike 33 = .ok (.ireturn, 1) := kq.at kqdX7_areAlike_0 19 rfl
theorem dX7_areAlike_34 : decode cX7_areAlike 34 = .ok (.iinc 6 1, 3) := kq.at kqdX7_areAlike_0 20 rfl
theorem dX7_areAlike_37 : decode cX7_areAlike 37 = .ok (.goto (-34), 3) := kq.at kqdX7_areAlike_0 21 rfl
theorem dX7_areAlike_40 : decode cX7_areAlike 40 = .ok (.iconst 1, 1) := kq.at kqdX7_areAlike_0 22 rfl
theorem dX7_areAlike_41 : decode cX7_areAlike 41 = .ok (.ireturn, 1) := kq.at kqdX7_areAlike_0 23 rfl
theorem kqdX7_areMirrors_0 : kq cX7_areMirrors [(0, .aload_n 0, 1), (1, .getfield 25, 3), (4, .iload_n 1, 1), (5, .iaload, 1), (6, .aload_n 0, 1), (7, .getfield 25, 3), (10, .iload_n 2, 1), (11, .iaload, 1), (12, .if_icmp .eq 5, 3), (15, .iconst 0, 1), (16, .ireturn, 1), (17, .iconst 0, 1), (18, .istore_n 3, 1), (19, .iload_n 3, 1), (20, .aload_n 0, 1), (21, .getfield 25, 3), (24, .iload_n 1, 1), (25, .iaload, 1), (26, .if_icmp .ge 29, 3), (29, .aload_n 0, 1), (30, .iload_n 1, 1), (31, .iload_n 3, 1), (32, .invokevirtual 71, 3), (35, .invokestatic 74, 3)] = true := by decide +kernel
theorem dX7_areMirrors_0 : decode cX7_areMirrors 0 = .ok (.aload_n 0, 1) := kq.at kqdX7_areMirrors_0 0 rfl
theorem dX7_areMirrors_1 : decode cX7_areMirrors 1 = .ok (.getfield 25, 3) := kq.at kqdX7_areMirrors_0 1 rfl
theorem dX7_areMirrors_4 : decode cX7_areMirrors 4 = .ok (.iload_n 1, 1) := kq.at kqdX7_areMirrors_0 2 rfl
theorem dX7_areMirrors_5 : decode cX7_areMirrors 5 = .ok (.iaload, 1) := kq.at kqdX7_areMirrors_0 3 rfl
theorem dX7_areMirrors_6 : decode cX7_areMirrors 6 = .ok (.aload_n 0, 1) := kq.at kqdX7_areMirrors_0 4 rfl
theorem dX7_areMirrors_7 : decode cX7_areMirrors 7 = .ok (.getfield 25, 3) := kq.at kqdX7_areMirrors_0 5 rfl
theorem dX7_areMirrors_10 : decode cX7_areMirrors 10 = .ok (.iload_n 2, 1) := kq.at kqdX7_areMirrors_0 6 rfl
theorem dX7_areMirrors_11 : decode cX7_areMirrors 11 = .ok (.iaload, 1) := kq.at kqdX7_areMirrors_0 7 rfl
theorem dX7_areMirrors_12 : decode cX7_areMirrors 12 = .ok (.if_icmp .eq 5, 3) := kq.at kqdX7_areMirrors_0 8 rfl
theorem dX7_areMirrors_15 : decode cX7_areMirrors 15 = .ok (.iconst 0, 1) := kq.at kqdX7_areMirrors_0 9 rfl
theorem dX7_areMirrors_16 : decode cX7_areMirrors 16 = .ok (.ireturn, 1) := kq.at kqdX7_areMirrors_0 10 rfl
theorem dX7_areMirrors_17 : decode cX7_areMirrors 17 = .ok (.iconst 0, 1) := kq.at kqdX7_areMirrors_0 11 rfl
theorem dX7_areMirrors_18 : decode cX7_areMirrors 18 = .ok (.istore_n 3, 1) := kq.at kqdX7_areMirrors_0 12 rfl
theorem dX7_areMirrors_19 : decode cX7_areMirrors 19 = .ok (.iload_n 3, 1) := kq.at kqdX7_areMirrors_0 13 rfl
theorem dX7_areMirrors_20 : decode cX7_areMirrors 20 = .ok (.aload_n 0, 1) := kq.at kqdX7_areMirrors_0 14 rfl
theorem dX7_areMirrors_21 : decode cX7_areMirrors 21 = .ok (.getfield 25, 3) := kq.at kqdX7_areMirrors_0 15 rfl
theorem dX7_areMirrors_24 : decode cX7_areMirrors 24 = .ok (.iload_n 1, 1) := kq.at kqdX7_areMirrors_0 16 rfl
theorem dX7_areMirrors_25 : decode cX7_areMirrors 25 = .ok (.iaload, 1) := kq.at kqdX7_areMirrors_0 17 rfl
theorem dX7_areMirrors_26 : decode cX7_areMirrors 26 = .ok (.if_icmp .ge 29, 3) := kq.at kqdX7_areMirrors_0 18 rfl
theorem dX7_areMirrors_29 : decode cX7_areMirrors 29 = .ok (.aload_n 0, 1) := kq.at kqdX7_areMirrors_0 19 rfl
theorem dX7_areMirrors_30 : decode cX7_areMirrors 30 = .ok (.iload_n 1, 1) := kq.at kqdX7_areMirrors_0 20 rfl
theorem dX7_areMirrors_31 : decode cX7_areMirrors 31 = .ok (.iload_n 3, 1) := kq.at kqdX7_areMirrors_0 21 rfl
theorem dX7_areMirrors_32 : decode cX7_areMirrors 32 = .ok (.invokevirtual 71, 3) := kq.at kqdX7_areMirrors_0 22 rfl
theorem dX7_areMirrors_35 : decode cX7_areMirrors 35 = .ok (.invokestatic 74, 3) := kq.at kqdX7_areMirrors_0 23 rfl
theorem kqdX7_areMirrors_38 : kq cX7_areMirrors [(38, .aload_n 0, 1), (39, .iload_n 2, 1), (40, .iload_n 3, 1), (41, .invokevirtual 71, 3), (44, .if_icmp .eq 5, 3), (47, .iconst 0, 1), (48, .ireturn, 1), (49, .iinc 3 1, 3), (52, .goto (-33), 3), (55, .iconst 1, 1), (56, .ireturn, 1)] = true := by decide +kernel
theorem dX7_areMirrors_38 : decode cX7_areMirrors 38 = .ok (.aload_n 0, 1) := kq.at kqdX7_areMirrors_38 0 rfl
theorem dX7_areMirrors_39 : decode cX7_areMirrors 39 = .ok (.iload_n 2, 1) := kq.at kqdX7_areMirrors_38 1 rfl
theorem dX7_areMirrors_40 : decode cX7_areMirrors 40 = .ok (.iload_n 3, 1) := kq.at kqdX7_areMirrors_38 2 rfl
theorem dX7_areMirrors_41 : decode cX7_areMirrors 41 = .ok (.invokevirtual 71, 3) := kq.at kqdX7_areMirrors_38 3 rfl
theorem dX7_areMirrors_44 : decode cX7_areMirrors 44 = .ok (.if_icmp .eq 5, 3) := kq.at kqdX7_areMirrors_38 4 rfl
theorem dX7_areMirrors_47 : decode cX7_areMirrors 47 = .ok (.iconst 0, 1) := kq.at kqdX7_areMirrors_38 5 rfl
theorem dX7_areMirrors_48 : decode cX7_areMirrors 48 = .ok (.ireturn, 1) := kq.at kqdX7_areMirrors_38 6 rfl
theorem dX7_areMirrors_49 : decode cX7_areMirrors 49 = .ok (.iinc 3 1, 3) := kq.at kqdX7_areMirrors_38 7 rfl
theorem dX7_areMirrors_52 : decode cX7_areMirrors 52 = .ok (.goto (-33), 3) := kq.at kqdX7_areMirrors_38 8 rfl
theorem dX7_areMirrors_55 : decode cX7_areMirrors 55 = .ok (.iconst 1, 1) := kq.at kqdX7_areMirrors_38 9 rfl
theorem dX7_areMirrors_56 : decode cX7_areMirrors 56 = .ok (.ireturn, 1) := kq.at kqdX7_areMirrors_38 10 rfl
theorem kqdX7_unlikeDots_0 : kq cX7_unlikeDots [(0, .iconst 0, 1), (1, .istore_n 3, 1), (2, .iconst 0, 1), (3, .istore 4, 2), (5, .iload 4, 2), (7, .aload_n 0, 1), (8, .getfield 25, 3), (11, .iload_n 1, 1), (12, .iaload, 1), (13, .if_icmp .ge 30, 3), (16, .iload_n 3, 1), (17, .aload_n 0, 1), (18, .iload_n 1, 1), (19, .iload 4, 2), (21, .invokevirtual 71, 3), (24, .aload_n 0, 1), (25, .iload_n 2, 1), (26, .iload 4, 2), (28, .invokevirtual 71, 3), (31, .ixor, 1), (32, .invokestatic 77, 3), (35, .iadd, 1), (36, .istore_n 3, 1), (37, .iinc 4 1, 3)] = true := by decide +kernel
theorem dX7_unlikeDots_0 : decode cX7_unlikeDots 0 = .ok (.iconst 0, 1) := kq.at kqdX7_unlikeDots_0 0 rfl
theorem dX7_unlikeDots_1 : decode cX7_unlikeDots 1 = .ok (.istore_n 3, 1) := kq.at kqdX7_unlikeDots_0 1 rfl
theorem dX7_unlikeDots_2 : decode cX7_unlikeDots 2 = .ok (.iconst 0, 1) := kq.at kqdX7_unlikeDots_0 2 rfl
theorem dX7_unlikeDots_3 : decode cX7_unlikeDots 3 = .ok (.istore 4, 2) := kq.at kqdX7_unlikeDots_0 3 rfl
theorem dX7_unlikeDots_5 : decode cX7_unlikeDots 5 = .ok (.iload 4, 2) := kq.at kqdX7_unlikeDots_0 4 rfl
theorem dX7_unlikeDots_7 : decode cX7_unlikeDots 7 = .ok (.aload_n 0, 1) := kq.at kqdX7_unlikeDots_0 5 rfl
theorem dX7_unlikeDots_8 : decode cX7_unlikeDots 8 = .ok (.getfield 25, 3) := kq.at kqdX7_unlikeDots_0 6 rfl
theorem dX7_unlikeDots_11 : decode cX7_unlikeDots 11 = .ok (.iload_n 1, 1) := kq.at kqdX7_unlikeDots_0 7 rfl
theorem dX7_unlikeDots_12 : decode cX7_unlikeDots 12 = .ok (.iaload, 1) := kq.at kqdX7_unlikeDots_0 8 rfl
theorem dX7_unlikeDots_13 : decode cX7_unlikeDots 13 = .ok (.if_icmp .ge 30, 3) := kq.at kqdX7_unlikeDots_0 9 rfl
theorem dX7_unlikeDots_16 : decode cX7_unlikeDots 16 = .ok (.iload_n 3, 1) := kq.at kqdX7_unlikeDots_0 10 rfl
theorem dX7_unlikeDots_17 : decode cX7_unlikeDots 17 = .ok (.aload_n 0, 1) := kq.at kqdX7_unlikeDots_0 11 rfl
theorem dX7_unlikeDots_18 : decode cX7_unlikeDots 18 = .ok (.iload_n 1, 1) := kq.at kqdX7_unlikeDots_0 12 rfl
theorem dX7_unlikeDots_19 : decode cX7_unlikeDots 19 = .ok (.iload 4, 2) := kq.at kqdX7_unlikeDots_0 13 rfl
theorem dX7_unlikeDots_21 : decode cX7_unlikeDots 21 = .ok (.invokevirtual 71, 3) := kq.at kqdX7_unlikeDots_0 14 rfl
theorem dX7_unlikeDots_24 : decode cX7_unlikeDots 24 = .ok (.aload_n 0, 1) := kq.at kqdX7_unlikeDots_0 15 rfl
theorem dX7_unlikeDots_25 : decode cX7_unlikeDots 25 = .ok (.iload_n 2, 1) := kq.at kqdX7_unlikeDots_0 16 rfl
theorem dX7_unlikeDots_26 : decode cX7_unlikeDots 26 = .ok (.iload 4, 2) := kq.at kqdX7_unlikeDots_0 17 rfl
theorem dX7_unlikeDots_28 : decode cX7_unlikeDots 28 = .ok (.invokevirtual 71, 3) := kq.at kqdX7_unlikeDots_0 18 rfl
theorem dX7_unlikeDots_31 : decode cX7_unlikeDots 31 = .ok (.ixor, 1) := kq.at kqdX7_unlikeDots_0 19 rfl
theorem dX7_unlikeDots_32 : decode cX7_unlikeDots 32 = .ok (.invokestatic 77, 3) := kq.at kqdX7_unlikeDots_0 20 rfl
theorem dX7_unlikeDots_35 : decode cX7_unlikeDots 35 = .ok (.iadd, 1) := kq.at kqdX7_unlikeDots_0 21 rfl
theorem dX7_unlikeDots_36 : decode cX7_unlikeDots 36 = .ok (.istore_n 3, 1) := kq.at kqdX7_unlikeDots_0 22 rfl
theorem dX7_unlikeDots_37 : decode cX7_unlikeDots 37 = .ok (.iinc 4 1, 3) := kq.at kqdX7_unlikeDots_0 23 rfl
theorem kqdX7_unlikeDots_40 : kq cX7_unlikeDots [(40, .goto (-35), 3), (43, .iload_n 3, 1), (44, .ireturn, 1)] = true := by decide +kernel
theorem dX7_unlikeDots_40 : decode cX7_unlikeDots 40 = .ok (.goto (-35), 3) := kq.at kqdX7_unlikeDots_40 0 rfl
theorem dX7_unlikeDots_43 : decode cX7_unlikeDots 43 = .ok (.iload_n 3, 1) := kq.at kqdX7_unlikeDots_40 1 rfl
theorem dX7_unlikeDots_44 : decode cX7_unlikeDots 44 = .ok (.ireturn, 1) := kq.at kqdX7_unlikeDots_40 2 rfl
theorem kqdX7_twinCouples_0 : kq cX7_twinCouples [(0, .iconst 0, 1), (1, .istore_n 1, 1), (2, .iconst 0, 1), (3, .istore_n 2, 1), (4, .iload_n 2, 1), (5, .aload_n 0, 1), (6, .getfield 9, 3), (9, .if_icmp .ge 76, 3), (12, .iload_n 2, 1), (13, .iconst 1, 1), (14, .iadd, 1), (15, .istore_n 3, 1), (16, .iload_n 3, 1), (17, .aload_n 0, 1), (18, .getfield 9, 3), (21, .if_icmp .ge 58, 3), (24, .aload_n 0, 1), (25, .iload_n 2, 1), (26, .invokevirtual 82, 3), (29, .ifCond .eq 15, 3), (32, .aload_n 0, 1), (33, .iload_n 3, 1), (34, .invokevirtual 82, 3), (37, .ifCond .eq 7, 3)] = true := by decide +kernel
theorem dX7_twinCouples_0 : decode cX7_twinCouples 0 = .ok (.iconst 0, 1) := kq.at kqdX7_twinCouples_0 0 rfl
theorem dX7_twinCouples_1 : decode cX7_twinCouples 1 = .ok (.istore_n 1, 1) := kq.at kqdX7_twinCouples_0 1 rfl
theorem dX7_twinCouples_2 : decode cX7_twinCouples 2 = .ok (.iconst 0, 1) := kq.at kqdX7_twinCouples_0 2 rfl
theorem dX7_twinCouples_3 : decode cX7_twinCouples 3 = .ok (.istore_n 2, 1) := kq.at kqdX7_twinCouples_0 3 rfl
theorem dX7_twinCouples_4 : decode cX7_twinCouples 4 = .ok (.iload_n 2, 1) := kq.at kqdX7_twinCouples_0 4 rfl
theorem dX7_twinCouples_5 : decode cX7_twinCouples 5 = .ok (.aload_n 0, 1) := kq.at kqdX7_twinCouples_0 5 rfl
theorem dX7_twinCouples_6 : decode cX7_twinCouples 6 = .ok (.getfield 9, 3) := kq.at kqdX7_twinCouples_0 6 rfl
theorem dX7_twinCouples_9 : decode cX7_twinCouples 9 = .ok (.if_icmp .ge 76, 3) := kq.at kqdX7_twinCouples_0 7 rfl
theorem dX7_twinCouples_12 : decode cX7_twinCouples 12 = .ok (.iload_n 2, 1) := kq.at kqdX7_twinCouples_0 8 rfl
theorem dX7_twinCouples_13 : decode cX7_twinCouples 13 = .ok (.iconst 1, 1) := kq.at kqdX7_twinCouples_0 9 rfl
theorem dX7_twinCouples_14 : decode cX7_twinCouples 14 = .ok (.iadd, 1) := kq.at kqdX7_twinCouples_0 10 rfl
theorem dX7_twinCouples_15 : decode cX7_twinCouples 15 = .ok (.istore_n 3, 1) := kq.at kqdX7_twinCouples_0 11 rfl
theorem dX7_twinCouples_16 : decode cX7_twinCouples 16 = .ok (.iload_n 3, 1) := kq.at kqdX7_twinCouples_0 12 rfl
theorem dX7_twinCouples_17 : decode cX7_twinCouples 17 = .ok (.aload_n 0, 1) := kq.at kqdX7_twinCouples_0 13 rfl
theorem dX7_twinCouples_18 : decode cX7_twinCouples 18 = .ok (.getfield 9, 3) := kq.at kqdX7_twinCouples_0 14 rfl
theorem dX7_twinCouples_21 : decode cX7_twinCouples 21 = .ok (.if_icmp .ge 58, 3) := kq.at kqdX7_twinCouples_0 15 rfl
theorem dX7_twinCouples_24 : decode cX7_twinCouples 24 = .ok (.aload_n 0, 1) := kq.at kqdX7_twinCouples_0 16 rfl
theorem dX7_twinCouples_25 : decode cX7_twinCouples 25 = .ok (.iload_n 2, 1) := kq.at kqdX7_twinCouples_0 17 rfl
theorem dX7_twinCouples_26 : decode cX7_twinCouples 26 = .ok (.invokevirtual 82, 3) := kq.at kqdX7_twinCouples_0 18 rfl
theorem dX7_twinCouples_29 : decode cX7_twinCouples 29 = .ok (.ifCond .eq 15, 3) := kq.at kqdX7_twinCouples_0 19 rfl
theorem dX7_twinCouples_32 : decode cX7_twinCouples 32 = .ok (.aload_n 0, 1) := kq.at kqdX7_twinCouples_0 20 rfl
theorem dX7_twinCouples_33 : decode cX7_twinCouples 33 = .ok (.iload_n 3, 1) := kq.at kqdX7_twinCouples_0 21 rfl
theorem dX7_twinCouples_34 : decode cX7_twinCouples 34 = .ok (.invokevirtual 82, 3) := kq.at kqdX7_twinCouples_0 22 rfl
theorem dX7_twinCouples_37 : decode cX7_twinCouples 37 = .ok (.ifCond .eq 7, 3) := kq.at kqdX7_twinCouples_0 23 rfl
theorem kqdX7_twinCouples_40 : kq cX7_twinCouples [(40, .iconst 1, 1), (41, .goto 4, 3), (44, .iconst 0, 1), (45, .istore 4, 2), (47, .iload 4, 2), (49, .ifCond .eq 24, 3), (52, .aload_n 0, 1), (53, .iload_n 2, 1), (54, .iload_n 3, 1), (55, .invokevirtual 85, 3), (58, .ifCond .eq 15, 3), (61, .aload_n 0, 1), (62, .iload_n 3, 1), (63, .iload_n 2, 1), (64, .invokevirtual 85, 3), (67, .ifCond .eq 6, 3), (70, .iinc 1 1, 3), (73, .iinc 3 1, 3), (76, .goto (-60), 3), (79, .iinc 2 1, 3), (82, .goto (-78), 3), (85, .iload_n 1, 1), (86, .ireturn, 1)] = true := by decide +kernel
theorem dX7_twinCouples_40 : decode cX7_twinCouples 40 = .ok (.iconst 1, 1) := kq.at kqdX7_twinCouples_40 0 rfl
theorem dX7_twinCouples_41 : decode cX7_twinCouples 41 = .ok (.goto 4, 3) := kq.at kqdX7_twinCouples_40 1 rfl
theorem dX7_twinCouples_44 : decode cX7_twinCouples 44 = .ok (.iconst 0, 1) := kq.at kqdX7_twinCouples_40 2 rfl
theorem dX7_twinCouples_45 : decode cX7_twinCouples 45 = .ok (.istore 4, 2) := kq.at kqdX7_twinCouples_40 3 rfl
theorem dX7_twinCouples_47 : decode cX7_twinCouples 47 = .ok (.iload 4, 2) := kq.at kqdX7_twinCouples_40 4 rfl
theorem dX7_twinCouples_49 : decode cX7_twinCouples 49 = .ok (.ifCond .eq 24, 3) := kq.at kqdX7_twinCouples_40 5 rfl
theorem dX7_twinCouples_52 : decode cX7_twinCouples 52 = .ok (.aload_n 0, 1) := kq.at kqdX7_twinCouples_40 6 rfl
theorem dX7_twinCouples_53 : decode cX7_twinCouples 53 = .ok (.iload_n 2, 1) := kq.at kqdX7_twinCouples_40 7 rfl
theorem dX7_twinCouples_54 : decode cX7_twinCouples 54 = .ok (.iload_n 3, 1) := kq.at kqdX7_twinCouples_40 8 rfl
theorem dX7_twinCouples_55 : decode cX7_twinCouples 55 = .ok (.invokevirtual 85, 3) := kq.at kqdX7_twinCouples_40 9 rfl
theorem dX7_twinCouples_58 : decode cX7_twinCouples 58 = .ok (.ifCond .eq 15, 3) := kq.at kqdX7_twinCouples_40 10 rfl
theorem dX7_twinCouples_61 : decode cX7_twinCouples 61 = .ok (.aload_n 0, 1) := kq.at kqdX7_twinCouples_40 11 rfl
theorem dX7_twinCouples_62 : decode cX7_twinCouples 62 = .ok (.iload_n 3, 1) := kq.at kqdX7_twinCouples_40 12 rfl
theorem dX7_twinCouples_63 : decode cX7_twinCouples 63 = .ok (.iload_n 2, 1) := kq.at kqdX7_twinCouples_40 13 rfl
theorem dX7_twinCouples_64 : decode cX7_twinCouples 64 = .ok (.invokevirtual 85, 3) := kq.at kqdX7_twinCouples_40 14 rfl
theorem dX7_twinCouples_67 : decode cX7_twinCouples 67 = .ok (.ifCond .eq 6, 3) := kq.at kqdX7_twinCouples_40 15 rfl
theorem dX7_twinCouples_70 : decode cX7_twinCouples 70 = .ok (.iinc 1 1, 3) := kq.at kqdX7_twinCouples_40 16 rfl
theorem dX7_twinCouples_73 : decode cX7_twinCouples 73 = .ok (.iinc 3 1, 3) := kq.at kqdX7_twinCouples_40 17 rfl
theorem dX7_twinCouples_76 : decode cX7_twinCouples 76 = .ok (.goto (-60), 3) := kq.at kqdX7_twinCouples_40 18 rfl
theorem dX7_twinCouples_79 : decode cX7_twinCouples 79 = .ok (.iinc 2 1, 3) := kq.at kqdX7_twinCouples_40 19 rfl
theorem dX7_twinCouples_82 : decode cX7_twinCouples 82 = .ok (.goto (-78), 3) := kq.at kqdX7_twinCouples_40 20 rfl
theorem dX7_twinCouples_85 : decode cX7_twinCouples 85 = .ok (.iload_n 1, 1) := kq.at kqdX7_twinCouples_40 21 rfl
theorem dX7_twinCouples_86 : decode cX7_twinCouples 86 = .ok (.ireturn, 1) := kq.at kqdX7_twinCouples_40 22 rfl
theorem kqdX7_clashingCouples_0 : kq cX7_clashingCouples [(0, .iconst 0, 1), (1, .istore_n 1, 1), (2, .iconst 0, 1), (3, .istore_n 2, 1), (4, .iload_n 2, 1), (5, .aload_n 0, 1), (6, .getfield 9, 3), (9, .if_icmp .ge 58, 3), (12, .iconst 0, 1), (13, .istore_n 3, 1), (14, .iload_n 3, 1), (15, .aload_n 0, 1), (16, .getfield 9, 3), (19, .if_icmp .ge 42, 3), (22, .iload_n 2, 1), (23, .iload_n 3, 1), (24, .if_icmp .eq 31, 3), (27, .aload_n 0, 1), (28, .iload_n 2, 1), (29, .invokevirtual 82, 3), (32, .ifCond .eq 23, 3), (35, .aload_n 0, 1), (36, .iload_n 3, 1), (37, .invokevirtual 82, 3)] = true := by decide +kernel
theorem dX7_clashingCouples_0 : decode cX7_clashingCouples 0 = .ok (.iconst 0, 1) := kq.at kqdX7_clashingCouples_0 0 rfl
theorem dX7_clashingCouples_1 : decode cX7_clashingCouples 1 = .ok (.istore_n 1, 1) := kq.at kqdX7_clashingCouples_0 1 rfl
theorem dX7_clashingCouples_2 : decode cX7_clashingCouples 2 = .ok (.iconst 0, 1) := kq.at kqdX7_clashingCouples_0 2 rfl
theorem dX7_clashingCouples_3 : decode cX7_clashingCouples 3 = .ok (.istore_n 2, 1) := kq.at kqdX7_clashingCouples_0 3 rfl
theorem dX7_clashingCouples_4 : decode cX7_clashingCouples 4 = .ok (.iload_n 2, 1) := kq.at kqdX7_clashingCouples_0 4 rfl
theorem dX7_clashingCouples_5 : decode cX7_clashingCouples 5 = .ok (.aload_n 0, 1) := kq.at kqdX7_clashingCouples_0 5 rfl
theorem dX7_clashingCouples_6 : decode cX7_clashingCouples 6 = .ok (.getfield 9, 3) := kq.at kqdX7_clashingCouples_0 6 rfl
theorem dX7_clashingCouples_9 : decode cX7_clashingCouples 9 = .ok (.if_icmp .ge 58, 3) := kq.at kqdX7_clashingCouples_0 7 rfl
theorem dX7_clashingCouples_12 : decode cX7_clashingCouples 12 = .ok (.iconst 0, 1) := kq.at kqdX7_clashingCouples_0 8 rfl
theorem dX7_clashingCouples_13 : decode cX7_clashingCouples 13 = .ok (.istore_n 3, 1) := kq.at kqdX7_clashingCouples_0 9 rfl
theorem dX7_clashingCouples_14 : decode cX7_clashingCouples 14 = .ok (.iload_n 3, 1) := kq.at kqdX7_clashingCouples_0 10 rfl
theorem dX7_clashingCouples_15 : decode cX7_clashingCouples 15 = .ok (.aload_n 0, 1) := kq.at kqdX7_clashingCouples_0 11 rfl
theorem dX7_clashingCouples_16 : decode cX7_clashingCouples 16 = .ok (.getfield 9, 3) := kq.at kqdX7_clashingCouples_0 12 rfl
theorem dX7_clashingCouples_19 : decode cX7_clashingCouples 19 = .ok (.if_icmp .ge 42, 3) := kq.at kqdX7_clashingCouples_0 13 rfl
theorem dX7_clashingCouples_22 : decode cX7_clashingCouples 22 = .ok (.iload_n 2, 1) := kq.at kqdX7_clashingCouples_0 14 rfl
theorem dX7_clashingCouples_23 : decode cX7_clashingCouples 23 = .ok (.iload_n 3, 1) := kq.at kqdX7_clashingCouples_0 15 rfl
theorem dX7_clashingCouples_24 : decode cX7_clashingCouples 24 = .ok (.if_icmp .eq 31, 3) := kq.at kqdX7_clashingCouples_0 16 rfl
theorem dX7_clashingCouples_27 : decode cX7_clashingCouples 27 = .ok (.aload_n 0, 1) := kq.at kqdX7_clashingCouples_0 17 rfl
theorem dX7_clashingCouples_28 : decode cX7_clashingCouples 28 = .ok (.iload_n 2, 1) := kq.at kqdX7_clashingCouples_0 18 rfl
theorem dX7_clashingCouples_29 : decode cX7_clashingCouples 29 = .ok (.invokevirtual 82, 3) := kq.at kqdX7_clashingCouples_0 19 rfl
theorem dX7_clashingCouples_32 : decode cX7_clashingCouples 32 = .ok (.ifCond .eq 23, 3) := kq.at kqdX7_clashingCouples_0 20 rfl
theorem dX7_clashingCouples_35 : decode cX7_clashingCouples 35 = .ok (.aload_n 0, 1) := kq.at kqdX7_clashingCouples_0 21 rfl
theorem dX7_clashingCouples_36 : decode cX7_clashingCouples 36 = .ok (.iload_n 3, 1) := kq.at kqdX7_clashingCouples_0 22 rfl
theorem dX7_clashingCouples_37 : decode cX7_clashingCouples 37 = .ok (.invokevirtual 82, 3) := kq.at kqdX7_clashingCouples_0 23 rfl
theorem kqdX7_clashingCouples_40 : kq cX7_clashingCouples [(40, .ifCond .eq 15, 3), (43, .aload_n 0, 1), (44, .iload_n 2, 1), (45, .iload_n 3, 1), (46, .invokevirtual 85, 3), (49, .ifCond .eq 6, 3), (52, .iinc 1 1, 3), (55, .iinc 3 1, 3), (58, .goto (-44), 3), (61, .iinc 2 1, 3), (64, .goto (-60), 3), (67, .iload_n 1, 1), (68, .ireturn, 1)] = true := by decide +kernel
theorem dX7_clashingCouples_40 : decode cX7_clashingCouples 40 = .ok (.ifCond .eq 15, 3) := kq.at kqdX7_clashingCouples_40 0 rfl
theorem dX7_clashingCouples_43 : decode cX7_clashingCouples 43 = .ok (.aload_n 0, 1) := kq.at kqdX7_clashingCouples_40 1 rfl
theorem dX7_clashingCouples_44 : decode cX7_clashingCouples 44 = .ok (.iload_n 2, 1) := kq.at kqdX7_clashingCouples_40 2 rfl
theorem dX7_clashingCouples_45 : decode cX7_clashingCouples 45 = .ok (.iload_n 3, 1) := kq.at kqdX7_clashingCouples_40 3 rfl
theorem dX7_clashingCouples_46 : decode cX7_clashingCouples 46 = .ok (.invokevirtual 85, 3) := kq.at kqdX7_clashingCouples_40 4 rfl
theorem dX7_clashingCouples_49 : decode cX7_clashingCouples 49 = .ok (.ifCond .eq 6, 3) := kq.at kqdX7_clashingCouples_40 5 rfl
theorem dX7_clashingCouples_52 : decode cX7_clashingCouples 52 = .ok (.iinc 1 1, 3) := kq.at kqdX7_clashingCouples_40 6 rfl
theorem dX7_clashingCouples_55 : decode cX7_clashingCouples 55 = .ok (.iinc 3 1, 3) := kq.at kqdX7_clashingCouples_40 7 rfl
theorem dX7_clashingCouples_58 : decode cX7_clashingCouples 58 = .ok (.goto (-44), 3) := kq.at kqdX7_clashingCouples_40 8 rfl
theorem dX7_clashingCouples_61 : decode cX7_clashingCouples 61 = .ok (.iinc 2 1, 3) := kq.at kqdX7_clashingCouples_40 9 rfl
theorem dX7_clashingCouples_64 : decode cX7_clashingCouples 64 = .ok (.goto (-60), 3) := kq.at kqdX7_clashingCouples_40 10 rfl
theorem dX7_clashingCouples_67 : decode cX7_clashingCouples 67 = .ok (.iload_n 1, 1) := kq.at kqdX7_clashingCouples_40 11 rfl
theorem dX7_clashingCouples_68 : decode cX7_clashingCouples 68 = .ok (.ireturn, 1) := kq.at kqdX7_clashingCouples_40 12 rfl
theorem kqdX8_init_0 : kq cX8_init [(0, .aload_n 0, 1), (1, .invokespecial 3, 3), (4, .aload_n 0, 1), (5, .sipush 240, 3), (8, .newarray .long, 2), (10, .putfield 11, 3), (13, .aload_n 0, 1), (14, .iconst 4, 1), (15, .newarray .int, 2), (17, .putfield 15, 3), (20, .aload_n 0, 1), (21, .iconst 4, 1), (22, .newarray .int, 2), (24, .putfield 19, 3), (27, .iconst 0, 1), (28, .istore_n 1, 1), (29, .iload_n 1, 1), (30, .iconst 4, 1), (31, .if_icmp .ge 16, 3), (34, .aload_n 0, 1), (35, .getfield 19, 3), (38, .iload_n 1, 1), (39, .iconst (-1), 1), (40, .iastore, 1)] = true := by decide +kernel
theorem dX8_init_0 : decode cX8_init 0 = .ok (.aload_n 0, 1) := kq.at kqdX8_init_0 0 rfl
theorem dX8_init_1 : decode cX8_init 1 = .ok (.invokespecial 3, 3) := kq.at kqdX8_init_0 1 rfl
theorem dX8_init_4 : decode cX8_init 4 = .ok (.aload_n 0, 1) := kq.at kqdX8_init_0 2 rfl
theorem dX8_init_5 : decode cX8_init 5 = .ok (.sipush 240, 3) := kq.at kqdX8_init_0 3 rfl
theorem dX8_init_8 : decode cX8_init 8 = .ok (.newarray .long, 2) := kq.at kqdX8_init_0 4 rfl
theorem dX8_init_10 : decode cX8_init 10 = .ok (.putfield 11, 3) := kq.at kqdX8_init_0 5 rfl
theorem dX8_init_13 : decode cX8_init 13 = .ok (.aload_n 0, 1) := kq.at kqdX8_init_0 6 rfl
theorem dX8_init_14 : decode cX8_init 14 = .ok (.iconst 4, 1) := kq.at kqdX8_init_0 7 rfl
theorem dX8_init_15 : decode cX8_init 15 = .ok (.newarray .int, 2) := kq.at kqdX8_init_0 8 rfl
theorem dX8_init_17 : decode cX8_init 17 = .ok (.putfield 15, 3) := kq.at kqdX8_init_0 9 rfl
theorem dX8_init_20 : decode cX8_init 20 = .ok (.aload_n 0, 1) := kq.at kqdX8_init_0 10 rfl
theorem dX8_init_21 : decode cX8_init 21 = .ok (.iconst 4, 1) := kq.at kqdX8_init_0 11 rfl
theorem dX8_init_22 : decode cX8_init 22 = .ok (.newarray .int, 2) := kq.at kqdX8_init_0 12 rfl
theorem dX8_init_24 : decode cX8_init 24 = .ok (.putfield 19, 3) := kq.at kqdX8_init_0 13 rfl
theorem dX8_init_27 : decode cX8_init 27 = .ok (.iconst 0, 1) := kq.at kqdX8_init_0 14 rfl
theorem dX8_init_28 : decode cX8_init 28 = .ok (.istore_n 1, 1) := kq.at kqdX8_init_0 15 rfl
theorem dX8_init_29 : decode cX8_init 29 = .ok (.iload_n 1, 1) := kq.at kqdX8_init_0 16 rfl
theorem dX8_init_30 : decode cX8_init 30 = .ok (.iconst 4, 1) := kq.at kqdX8_init_0 17 rfl
theorem dX8_init_31 : decode cX8_init 31 = .ok (.if_icmp .ge 16, 3) := kq.at kqdX8_init_0 18 rfl
theorem dX8_init_34 : decode cX8_init 34 = .ok (.aload_n 0, 1) := kq.at kqdX8_init_0 19 rfl
theorem dX8_init_35 : decode cX8_init 35 = .ok (.getfield 19, 3) := kq.at kqdX8_init_0 20 rfl
theorem dX8_init_38 : decode cX8_init 38 = .ok (.iload_n 1, 1) := kq.at kqdX8_init_0 21 rfl
theorem dX8_init_39 : decode cX8_init 39 = .ok (.iconst (-1), 1) := kq.at kqdX8_init_0 22 rfl
theorem dX8_init_40 : decode cX8_init 40 = .ok (.iastore, 1) := kq.at kqdX8_init_0 23 rfl
theorem kqdX8_init_41 : kq cX8_init [(41, .iinc 1 1, 3), (44, .goto (-15), 3), (47, .return_, 1)] = true := by decide +kernel
theorem dX8_init_41 : decode cX8_init 41 = .ok (.iinc 1 1, 3) := kq.at kqdX8_init_41 0 rfl
theorem dX8_init_44 : decode cX8_init 44 = .ok (.goto (-15), 3) := kq.at kqdX8_init_41 1 rfl
theorem dX8_init_47 : decode cX8_init 47 = .ok (.return_, 1) := kq.at kqdX8_init_41 2 rfl
theorem kqdX8_isTray_0 : kq cX8_isTray [(0, .iload_n 1, 1), (1, .ifCond .lt 12, 3), (4, .iload_n 1, 1), (5, .iconst 4, 1), (6, .if_icmp .ge 7, 3), (9, .iconst 1, 1), (10, .goto 4, 3), (13, .iconst 0, 1), (14, .ireturn, 1)] = true := by decide +kernel
theorem dX8_isTray_0 : decode cX8_isTray 0 = .ok (.iload_n 1, 1) := kq.at kqdX8_isTray_0 0 rfl
theorem dX8_isTray_1 : decode cX8_isTray 1 = .ok (.ifCond .lt 12, 3) := kq.at kqdX8_isTray_0 1 rfl
theorem dX8_isTray_4 : decode cX8_isTray 4 = .ok (.iload_n 1, 1) := kq.at kqdX8_isTray_0 2 rfl
theorem dX8_isTray_5 : decode cX8_isTray 5 = .ok (.iconst 4, 1) := kq.at kqdX8_isTray_0 3 rfl
theorem dX8_isTray_6 : decode cX8_isTray 6 = .ok (.if_icmp .ge 7, 3) := kq.at kqdX8_isTray_0 4 rfl
theorem dX8_isTray_9 : decode cX8_isTray 9 = .ok (.iconst 1, 1) := kq.at kqdX8_isTray_0 5 rfl
theorem dX8_isTray_10 : decode cX8_isTray 10 = .ok (.goto 4, 3) := kq.at kqdX8_isTray_0 6 rfl
theorem dX8_isTray_13 : decode cX8_isTray 13 = .ok (.iconst 0, 1) := kq.at kqdX8_isTray_0 7 rfl
theorem dX8_isTray_14 : decode cX8_isTray 14 = .ok (.ireturn, 1) := kq.at kqdX8_isTray_0 8 rfl
theorem kqdX8_isSort_0 : kq cX8_isSort [(0, .iload_n 1, 1), (1, .ifCond .lt 12, 3), (4, .iload_n 1, 1), (5, .iconst 4, 1), (6, .if_icmp .ge 7, 3), (9, .iconst 1, 1), (10, .goto 4, 3), (13, .iconst 0, 1), (14, .ireturn, 1)] = true := by decide +kernel
theorem dX8_isSort_0 : decode cX8_isSort 0 = .ok (.iload_n 1, 1) := kq.at kqdX8_isSort_0 0 rfl
theorem dX8_isSort_1 : decode cX8_isSort 1 = .ok (.ifCond .lt 12, 3) := kq.at kqdX8_isSort_0 1 rfl
theorem dX8_isSort_4 : decode cX8_isSort 4 = .ok (.iload_n 1, 1) := kq.at kqdX8_isSort_0 2 rfl
theorem dX8_isSort_5 : decode cX8_isSort 5 = .ok (.iconst 4, 1) := kq.at kqdX8_isSort_0 3 rfl
theorem dX8_isSort_6 : decode cX8_isSort 6 = .ok (.if_icmp .ge 7, 3) := kq.at kqdX8_isSort_0 4 rfl
theorem dX8_isSort_9 : decode cX8_isSort 9 = .ok (.iconst 1, 1) := kq.at kqdX8_isSort_0 5 rfl
theorem dX8_isSort_10 : decode cX8_isSort 10 = .ok (.goto 4, 3) := kq.at kqdX8_isSort_0 6 rfl
theorem dX8_isSort_13 : decode cX8_isSort 13 = .ok (.iconst 0, 1) := kq.at kqdX8_isSort_0 7 rfl
theorem dX8_isSort_14 : decode cX8_isSort 14 = .ok (.ireturn, 1) := kq.at kqdX8_isSort_0 8 rfl
theorem kqdX8_isMissing_0 : kq cX8_isMissing [(0, .aload_n 0, 1), (1, .getfield 19, 3), (4, .iload_n 1, 1), (5, .iaload, 1), (6, .iconst (-1), 1), (7, .if_icmp .ne 7, 3), (10, .iconst 1, 1), (11, .goto 4, 3), (14, .iconst 0, 1), (15, .ireturn, 1)] = true := by decide +kernel
theorem dX8_isMissing_0 : decode cX8_isMissing 0 = .ok (.aload_n 0, 1) := kq.at kqdX8_isMissing_0 0 rfl
theorem dX8_isMissing_1 : decode cX8_isMissing 1 = .ok (.getfield 19, 3) := kq.at kqdX8_isMissing_0 1 rfl
theorem dX8_isMissing_4 : decode cX8_isMissing 4 = .ok (.iload_n 1, 1) := kq.at kqdX8_isMissing_0 2 rfl
theorem dX8_isMissing_5 : decode cX8_isMissing 5 = .ok (.iaload, 1) := kq.at kqdX8_isMissing_0 3 rfl
theorem dX8_isMissing_6 : decode cX8_isMissing 6 = .ok (.iconst (-1), 1) := kq.at kqdX8_isMissing_0 4 rfl
theorem dX8_isMissing_7 : decode cX8_isMissing 7 = .ok (.if_icmp .ne 7, 3) := kq.at kqdX8_isMissing_0 5 rfl
theorem dX8_isMissing_10 : decode cX8_isMissing 10 = .ok (.iconst 1, 1) := kq.at kqdX8_isMissing_0 6 rfl
theorem dX8_isMissing_11 : decode cX8_isMissing 11 = .ok (.goto 4, 3) := kq.at kqdX8_isMissing_0 7 rfl
theorem dX8_isMissing_14 : decode cX8_isMissing 14 = .ok (.iconst 0, 1) := kq.at kqdX8_isMissing_0 8 rfl
theorem dX8_isMissing_15 : decode cX8_isMissing 15 = .ok (.ireturn, 1) := kq.at kqdX8_isMissing_0 9 rfl
theorem kqdX8_sortOf_0 : kq cX8_sortOf [(0, .aload_n 0, 1), (1, .getfield 15, 3), (4, .iload_n 1, 1), (5, .iaload, 1), (6, .ireturn, 1)] = true := by decide +kernel
theorem dX8_sortOf_0 : decode cX8_sortOf 0 = .ok (.aload_n 0, 1) := kq.at kqdX8_sortOf_0 0 rfl
theorem dX8_sortOf_1 : decode cX8_sortOf 1 = .ok (.getfield 15, 3) := kq.at kqdX8_sortOf_0 1 rfl
theorem dX8_sortOf_4 : decode cX8_sortOf 4 = .ok (.iload_n 1, 1) := kq.at kqdX8_sortOf_0 2 rfl
theorem dX8_sortOf_5 : decode cX8_sortOf 5 = .ok (.iaload, 1) := kq.at kqdX8_sortOf_0 3 rfl
theorem dX8_sortOf_6 : decode cX8_sortOf 6 = .ok (.ireturn, 1) := kq.at kqdX8_sortOf_0 4 rfl
theorem kqdX8_hasFrom_0 : kq cX8_hasFrom [(0, .iload_n 2, 1), (1, .ifCond .lt 23, 3), (4, .iload_n 3, 1), (5, .ifCond .lt 19, 3), (8, .aload_n 0, 1), (9, .getfield 19, 3), (12, .iload_n 1, 1), (13, .iaload, 1), (14, .iload_n 2, 1), (15, .isub, 1), (16, .iload_n 3, 1), (17, .if_icmp .lt 7, 3), (20, .iconst 1, 1), (21, .goto 4, 3), (24, .iconst 0, 1), (25, .ireturn, 1)] = true := by decide +kernel
theorem dX8_hasFrom_0 : decode cX8_hasFrom 0 = .ok (.iload_n 2, 1) := kq.at kqdX8_hasFrom_0 0 rfl
theorem dX8_hasFrom_1 : decode cX8_hasFrom 1 = .ok (.ifCond .lt 23, 3) := kq.at kqdX8_hasFrom_0 1 rfl
theorem dX8_hasFrom_4 : decode cX8_hasFrom 4 = .ok (.iload_n 3, 1) := kq.at kqdX8_hasFrom_0 2 rfl
theorem dX8_hasFrom_5 : decode cX8_hasFrom 5 = .ok (.ifCond .lt 19, 3) := kq.at kqdX8_hasFrom_0 3 rfl
theorem dX8_hasFrom_8 : decode cX8_hasFrom 8 = .ok (.aload_n 0, 1) := kq.at kqdX8_hasFrom_0 4 rfl
theorem dX8_hasFrom_9 : decode cX8_hasFrom 9 = .ok (.getfield 19, 3) := kq.at kqdX8_hasFrom_0 5 rfl
theorem dX8_hasFrom_12 : decode cX8_hasFrom 12 = .ok (.iload_n 1, 1) := kq.at kqdX8_hasFrom_0 6 rfl
theorem dX8_hasFrom_13 : decode cX8_hasFrom 13 = .ok (.iaload, 1) := kq.at kqdX8_hasFrom_0 7 rfl
theorem dX8_hasFrom_14 : decode cX8_hasFrom 14 = .ok (.iload_n 2, 1) := kq.at kqdX8_hasFrom_0 8 rfl
theorem dX8_hasFrom_15 : decode cX8_hasFrom 15 = .ok (.isub, 1) := kq.at kqdX8_hasFrom_0 9 rfl
theorem dX8_hasFrom_16 : decode cX8_hasFrom 16 = .ok (.iload_n 3, 1) := kq.at kqdX8_hasFrom_0 10 rfl
theorem dX8_hasFrom_17 : decode cX8_hasFrom 17 = .ok (.if_icmp .lt 7, 3) := kq.at kqdX8_hasFrom_0 11 rfl
theorem dX8_hasFrom_20 : decode cX8_hasFrom 20 = .ok (.iconst 1, 1) := kq.at kqdX8_hasFrom_0 12 rfl
theorem dX8_hasFrom_21 : decode cX8_hasFrom 21 = .ok (.goto 4, 3) := kq.at kqdX8_hasFrom_0 13 rfl
theorem dX8_hasFrom_24 : decode cX8_hasFrom 24 = .ok (.iconst 0, 1) := kq.at kqdX8_hasFrom_0 14 rfl
theorem dX8_hasFrom_25 : decode cX8_hasFrom 25 = .ok (.ireturn, 1) := kq.at kqdX8_hasFrom_0 15 rfl
theorem kqdX8_whyNoPlace_0 : kq cX8_whyNoPlace [(0, .aload_n 0, 1), (1, .iload_n 1, 1), (2, .invokevirtual 22, 3), (5, .ifCond .ne 5, 3), (8, .iconst 1, 1), (9, .ireturn, 1), (10, .aload_n 0, 1), (11, .iload_n 1, 1), (12, .invokevirtual 26, 3), (15, .ifCond .eq 5, 3), (18, .iconst 2, 1), (19, .ireturn, 1), (20, .iload_n 2, 1), (21, .ifCond .lt 13, 3), (24, .iload_n 2, 1), (25, .aload_n 0, 1), (26, .getfield 19, 3), (29, .iload_n 1, 1), (30, .iaload, 1), (31, .if_icmp .lt 7, 3), (34, .iconst 3, 1), (35, .goto 4, 3), (38, .iconst 0, 1), (39, .ireturn, 1)] = true := by decide +kernel
theorem dX8_whyNoPlace_0 : decode cX8_whyNoPlace 0 = .ok (.aload_n 0, 1) := kq.at kqdX8_whyNoPlace_0 0 rfl
theorem dX8_whyNoPlace_1 : decode cX8_whyNoPlace 1 = .ok (.iload_n 1, 1) := kq.at kqdX8_whyNoPlace_0 1 rfl
theorem dX8_whyNoPlace_2 : decode cX8_whyNoPlace 2 = .ok (.invokevirtual 22, 3) := kq.at kqdX8_whyNoPlace_0 2 rfl
theorem dX8_whyNoPlace_5 : decode cX8_whyNoPlace 5 = .ok (.ifCond .ne 5, 3) := kq.at kqdX8_whyNoPlace_0 3 rfl
theorem dX8_whyNoPlace_8 : decode cX8_whyNoPlace 8 = .ok (.iconst 1, 1) := kq.at kqdX8_whyNoPlace_0 4 rfl
theorem dX8_whyNoPlace_9 : decode cX8_whyNoPlace 9 = .ok (.ireturn, 1) := kq.at kqdX8_whyNoPlace_0 5 rfl
theorem dX8_whyNoPlace_10 : decode cX8_whyNoPlace 10 = .ok (.aload_n 0, 1) := kq.at kqdX8_whyNoPlace_0 6 rfl
theorem dX8_whyNoPlace_11 : decode cX8_whyNoPlace 11 = .ok (.iload_n 1, 1) := kq.at kqdX8_whyNoPlace_0 7 rfl
theorem dX8_whyNoPlace_12 : decode cX8_whyNoPlace 12 = .ok (.invokevirtual 26, 3) := kq.at kqdX8_whyNoPlace_0 8 rfl
theorem dX8_whyNoPlace_15 : decode cX8_whyNoPlace 15 = .ok (.ifCond .eq 5, 3) := kq.at kqdX8_whyNoPlace_0 9 rfl
theorem dX8_whyNoPlace_18 : decode cX8_whyNoPlace 18 = .ok (.iconst 2, 1) := kq.at kqdX8_whyNoPlace_0 10 rfl
theorem dX8_whyNoPlace_19 : decode cX8_whyNoPlace 19 = .ok (.ireturn, 1) := kq.at kqdX8_whyNoPlace_0 11 rfl
theorem dX8_whyNoPlace_20 : decode cX8_whyNoPlace 20 = .ok (.iload_n 2, 1) := kq.at kqdX8_whyNoPlace_0 12 rfl
theorem dX8_whyNoPlace_21 : decode cX8_whyNoPlace 21 = .ok (.ifCond .lt 13, 3) := kq.at kqdX8_whyNoPlace_0 13 rfl
theorem dX8_whyNoPlace_24 : decode cX8_whyNoPlace 24 = .ok (.iload_n 2, 1) := kq.at kqdX8_whyNoPlace_0 14 rfl
theorem dX8_whyNoPlace_25 : decode cX8_whyNoPlace 25 = .ok (.aload_n 0, 1) := kq.at kqdX8_whyNoPlace_0 15 rfl
theorem dX8_whyNoPlace_26 : decode cX8_whyNoPlace 26 = .ok (.getfield 19, 3) := kq.at kqdX8_whyNoPlace_0 16 rfl
theorem dX8_whyNoPlace_29 : decode cX8_whyNoPlace 29 = .ok (.iload_n 1, 1) := kq.at kqdX8_whyNoPlace_0 17 rfl
theorem dX8_whyNoPlace_30 : decode cX8_whyNoPlace 30 = .ok (.iaload, 1) := kq.at kqdX8_whyNoPlace_0 18 rfl
theorem dX8_whyNoPlace_31 : decode cX8_whyNoPlace 31 = .ok (.if_icmp .lt 7, 3) := kq.at kqdX8_whyNoPlace_0 19 rfl
theorem dX8_whyNoPlace_34 : decode cX8_whyNoPlace 34 = .ok (.iconst 3, 1) := kq.at kqdX8_whyNoPlace_0 20 rfl
theorem dX8_whyNoPlace_35 : decode cX8_whyNoPlace 35 = .ok (.goto 4, 3) := kq.at kqdX8_whyNoPlace_0 21 rfl
theorem dX8_whyNoPlace_38 : decode cX8_whyNoPlace 38 = .ok (.iconst 0, 1) := kq.at kqdX8_whyNoPlace_0 22 rfl
theorem dX8_whyNoPlace_39 : decode cX8_whyNoPlace 39 = .ok (.ireturn, 1) := kq.at kqdX8_whyNoPlace_0 23 rfl
theorem kqdX8_lay_0 : kq cX8_lay [(0, .aload_n 0, 1), (1, .getfield 15, 3), (4, .iload_n 1, 1), (5, .iload_n 2, 1), (6, .iastore, 1), (7, .aload_n 0, 1), (8, .getfield 19, 3), (11, .iload_n 1, 1), (12, .iload_n 3, 1), (13, .iastore, 1), (14, .iconst 0, 1), (15, .istore 4, 2), (17, .iload 4, 2), (19, .iload_n 3, 1), (20, .if_icmp .ge 22, 3), (23, .aload_n 0, 1), (24, .getfield 11, 3), (27, .iload_n 1, 1), (28, .bipush 60, 2), (30, .imul, 1), (31, .iload 4, 2), (33, .iadd, 1), (34, .lconst 0, 1), (35, .lastore, 1)] = true := by decide +kernel
theorem dX8_lay_0 : decode cX8_lay 0 = .ok (.aload_n 0, 1) := kq.at kqdX8_lay_0 0 rfl
theorem dX8_lay_1 : decode cX8_lay 1 = .ok (.getfield 15, 3) := kq.at kqdX8_lay_0 1 rfl
theorem dX8_lay_4 : decode cX8_lay 4 = .ok (.iload_n 1, 1) := kq.at kqdX8_lay_0 2 rfl
theorem dX8_lay_5 : decode cX8_lay 5 = .ok (.iload_n 2, 1) := kq.at kqdX8_lay_0 3 rfl
theorem dX8_lay_6 : decode cX8_lay 6 = .ok (.iastore, 1) := kq.at kqdX8_lay_0 4 rfl
theorem dX8_lay_7 : decode cX8_lay 7 = .ok (.aload_n 0, 1) := kq.at kqdX8_lay_0 5 rfl
theorem dX8_lay_8 : decode cX8_lay 8 = .ok (.getfield 19, 3) := kq.at kqdX8_lay_0 6 rfl
theorem dX8_lay_11 : decode cX8_lay 11 = .ok (.iload_n 1, 1) := kq.at kqdX8_lay_0 7 rfl
theorem dX8_lay_12 : decode cX8_lay 12 = .ok (.iload_n 3, 1) := kq.at kqdX8_lay_0 8 rfl
theorem dX8_lay_13 : decode cX8_lay 13 = .ok (.iastore, 1) := kq.at kqdX8_lay_0 9 rfl
theorem dX8_lay_14 : decode cX8_lay 14 = .ok (.iconst 0, 1) := kq.at kqdX8_lay_0 10 rfl
theorem dX8_lay_15 : decode cX8_lay 15 = .ok (.istore 4, 2) := kq.at kqdX8_lay_0 11 rfl
theorem dX8_lay_17 : decode cX8_lay 17 = .ok (.iload 4, 2) := kq.at kqdX8_lay_0 12 rfl
theorem dX8_lay_19 : decode cX8_lay 19 = .ok (.iload_n 3, 1) := kq.at kqdX8_lay_0 13 rfl
theorem dX8_lay_20 : decode cX8_lay 20 = .ok (.if_icmp .ge 22, 3) := kq.at kqdX8_lay_0 14 rfl
theorem dX8_lay_23 : decode cX8_lay 23 = .ok (.aload_n 0, 1) := kq.at kqdX8_lay_0 15 rfl
theorem dX8_lay_24 : decode cX8_lay 24 = .ok (.getfield 11, 3) := kq.at kqdX8_lay_0 16 rfl
theorem dX8_lay_27 : decode cX8_lay 27 = .ok (.iload_n 1, 1) := kq.at kqdX8_lay_0 17 rfl
theorem dX8_lay_28 : decode cX8_lay 28 = .ok (.bipush 60, 2) := kq.at kqdX8_lay_0 18 rfl
theorem dX8_lay_30 : decode cX8_lay 30 = .ok (.imul, 1) := kq.at kqdX8_lay_0 19 rfl
theorem dX8_lay_31 : decode cX8_lay 31 = .ok (.iload 4, 2) := kq.at kqdX8_lay_0 20 rfl
theorem dX8_lay_33 : decode cX8_lay 33 = .ok (.iadd, 1) := kq.at kqdX8_lay_0 21 rfl
theorem dX8_lay_34 : decode cX8_lay 34 = .ok (.lconst 0, 1) := kq.at kqdX8_lay_0 22 rfl
theorem dX8_lay_35 : decode cX8_lay 35 = .ok (.lastore, 1) := kq.at kqdX8_lay_0 23 rfl
theorem kqdX8_lay_36 : kq cX8_lay [(36, .iinc 4 1, 3), (39, .goto (-22), 3), (42, .return_, 1)] = true := by decide +kernel
theorem dX8_lay_36 : decode cX8_lay 36 = .ok (.iinc 4 1, 3) := kq.at kqdX8_lay_36 0 rfl
theorem dX8_lay_39 : decode cX8_lay 39 = .ok (.goto (-22), 3) := kq.at kqdX8_lay_36 1 rfl
theorem dX8_lay_42 : decode cX8_lay 42 = .ok (.return_, 1) := kq.at kqdX8_lay_36 2 rfl
theorem kqdX8_put_0 : kq cX8_put [(0, .lload_n 3, 1), (1, .lstore 5, 2), (3, .aload_n 0, 1), (4, .getfield 15, 3), (7, .iload_n 1, 1), (8, .iaload, 1), (9, .ifCond .ne 12, 3), (12, .lload_n 3, 1), (13, .l2i, 1), (14, .i2b, 1), (15, .i2l, 1), (16, .lstore 5, 2), (18, .goto 37, 3), (21, .aload_n 0, 1), (22, .getfield 15, 3), (25, .iload_n 1, 1), (26, .iaload, 1), (27, .iconst 1, 1), (28, .if_icmp .ne 12, 3), (31, .lload_n 3, 1), (32, .l2i, 1), (33, .i2s, 1), (34, .i2l, 1), (35, .lstore 5, 2)] = true := by decide +kernel
theorem dX8_put_0 : decode cX8_put 0 = .ok (.lload_n 3, 1) := kq.at kqdX8_put_0 0 rfl
theorem dX8_put_1 : decode cX8_put 1 = .ok (.lstore 5, 2) := kq.at kqdX8_put_0 1 rfl
theorem dX8_put_3 : decode cX8_put 3 = .ok (.aload_n 0, 1) := kq.at kqdX8_put_0 2 rfl
theorem dX8_put_4 : decode cX8_put 4 = .ok (.getfield 15, 3) := kq.at kqdX8_put_0 3 rfl
theorem dX8_put_7 : decode cX8_put 7 = .ok (.iload_n 1, 1) := kq.at kqdX8_put_0 4 rfl
theorem dX8_put_8 : decode cX8_put 8 = .ok (.iaload, 1) := kq.at kqdX8_put_0 5 rfl
theorem dX8_put_9 : decode cX8_put 9 = .ok (.ifCond .ne 12, 3) := kq.at kqdX8_put_0 6 rfl
theorem dX8_put_12 : decode cX8_put 12 = .ok (.lload_n 3, 1) := kq.at kqdX8_put_0 7 rfl
theorem dX8_put_13 : decode cX8_put 13 = .ok (.l2i, 1) := kq.at kqdX8_put_0 8 rfl
theorem dX8_put_14 : decode cX8_put 14 = .ok (.i2b, 1) := kq.at kqdX8_put_0 9 rfl
theorem dX8_put_15 : decode cX8_put 15 = .ok (.i2l, 1) := kq.at kqdX8_put_0 10 rfl
theorem dX8_put_16 : decode cX8_put 16 = .ok (.lstore 5, 2) := kq.at kqdX8_put_0 11 rfl
theorem dX8_put_18 : decode cX8_put 18 = .ok (.goto 37, 3) := kq.at kqdX8_put_0 12 rfl
theorem dX8_put_21 : decode cX8_put 21 = .ok (.aload_n 0, 1) := kq.at kqdX8_put_0 13 rfl
theorem dX8_put_22 : decode cX8_put 22 = .ok (.getfield 15, 3) := kq.at kqdX8_put_0 14 rfl
theorem dX8_put_25 : decode cX8_put 25 = .ok (.iload_n 1, 1) := kq.at kqdX8_put_0 15 rfl
theorem dX8_put_26 : decode cX8_put 26 = .ok (.iaload, 1) := kq.at kqdX8_put_0 16 rfl
theorem dX8_put_27 : decode cX8_put 27 = .ok (.iconst 1, 1) := kq.at kqdX8_put_0 17 rfl
theorem dX8_put_28 : decode cX8_put 28 = .ok (.if_icmp .ne 12, 3) := kq.at kqdX8_put_0 18 rfl
theorem dX8_put_31 : decode cX8_put 31 = .ok (.lload_n 3, 1) := kq.at kqdX8_put_0 19 rfl
theorem dX8_put_32 : decode cX8_put 32 = .ok (.l2i, 1) := kq.at kqdX8_put_0 20 rfl
theorem dX8_put_33 : decode cX8_put 33 = .ok (.i2s, 1) := kq.at kqdX8_put_0 21 rfl
theorem dX8_put_34 : decode cX8_put 34 = .ok (.i2l, 1) := kq.at kqdX8_put_0 22 rfl
theorem dX8_put_35 : decode cX8_put 35 = .ok (.lstore 5, 2) := kq.at kqdX8_put_0 23 rfl
theorem kqdX8_put_37 : kq cX8_put [(37, .goto 18, 3), (40, .aload_n 0, 1), (41, .getfield 15, 3), (44, .iload_n 1, 1), (45, .iaload, 1), (46, .iconst 2, 1), (47, .if_icmp .ne 8, 3), (50, .lload_n 3, 1), (51, .l2i, 1), (52, .i2l, 1), (53, .lstore 5, 2), (55, .aload_n 0, 1), (56, .getfield 11, 3), (59, .iload_n 1, 1), (60, .bipush 60, 2), (62, .imul, 1), (63, .iload_n 2, 1), (64, .iadd, 1), (65, .lload 5, 2), (67, .lastore, 1), (68, .return_, 1)] = true := by decide +kernel
theorem dX8_put_37 : decode cX8_put 37 = .ok (.goto 18, 3) := kq.at kqdX8_put_37 0 rfl
theorem dX8_put_40 : decode cX8_put 40 = .ok (.aload_n 0, 1) := kq.at kqdX8_put_37 1 rfl
theorem dX8_put_41 : decode cX8_put 41 = .ok (.getfield 15, 3) := kq.at kqdX8_put_37 2 rfl
theorem dX8_put_44 : decode cX8_put 44 = .ok (.iload_n 1, 1) := kq.at kqdX8_put_37 3 rfl
theorem dX8_put_45 : decode cX8_put 45 = .ok (.iaload, 1) := kq.at kqdX8_put_37 4 rfl
theorem dX8_put_46 : decode cX8_put 46 = .ok (.iconst 2, 1) := kq.at kqdX8_put_37 5 rfl
theorem dX8_put_47 : decode cX8_put 47 = .ok (.if_icmp .ne 8, 3) := kq.at kqdX8_put_37 6 rfl
theorem dX8_put_50 : decode cX8_put 50 = .ok (.lload_n 3, 1) := kq.at kqdX8_put_37 7 rfl
theorem dX8_put_51 : decode cX8_put 51 = .ok (.l2i, 1) := kq.at kqdX8_put_37 8 rfl
theorem dX8_put_52 : decode cX8_put 52 = .ok (.i2l, 1) := kq.at kqdX8_put_37 9 rfl
theorem dX8_put_53 : decode cX8_put 53 = .ok (.lstore 5, 2) := kq.at kqdX8_put_37 10 rfl
theorem dX8_put_55 : decode cX8_put 55 = .ok (.aload_n 0, 1) := kq.at kqdX8_put_37 11 rfl
theorem dX8_put_56 : decode cX8_put 56 = .ok (.getfield 11, 3) := kq.at kqdX8_put_37 12 rfl
theorem dX8_put_59 : decode cX8_put 59 = .ok (.iload_n 1, 1) := kq.at kqdX8_put_37 13 rfl
theorem dX8_put_60 : decode cX8_put 60 = .ok (.bipush 60, 2) := kq.at kqdX8_put_37 14 rfl
theorem dX8_put_62 : decode cX8_put 62 = .ok (.imul, 1) := kq.at kqdX8_put_37 15 rfl
theorem dX8_put_63 : decode cX8_put 63 = .ok (.iload_n 2, 1) := kq.at kqdX8_put_37 16 rfl
theorem dX8_put_64 : decode cX8_put 64 = .ok (.iadd, 1) := kq.at kqdX8_put_37 17 rfl
theorem dX8_put_65 : decode cX8_put 65 = .ok (.lload 5, 2) := kq.at kqdX8_put_37 18 rfl
theorem dX8_put_67 : decode cX8_put 67 = .ok (.lastore, 1) := kq.at kqdX8_put_37 19 rfl
theorem dX8_put_68 : decode cX8_put 68 = .ok (.return_, 1) := kq.at kqdX8_put_37 20 rfl
theorem kqdX8_numberAt_0 : kq cX8_numberAt [(0, .aload_n 0, 1), (1, .getfield 11, 3), (4, .iload_n 1, 1), (5, .bipush 60, 2), (7, .imul, 1), (8, .iload_n 2, 1), (9, .iadd, 1), (10, .laload, 1), (11, .lreturn, 1)] = true := by decide +kernel
theorem dX8_numberAt_0 : decode cX8_numberAt 0 = .ok (.aload_n 0, 1) := kq.at kqdX8_numberAt_0 0 rfl
theorem dX8_numberAt_1 : decode cX8_numberAt 1 = .ok (.getfield 11, 3) := kq.at kqdX8_numberAt_0 1 rfl
theorem dX8_numberAt_4 : decode cX8_numberAt 4 = .ok (.iload_n 1, 1) := kq.at kqdX8_numberAt_0 2 rfl
theorem dX8_numberAt_5 : decode cX8_numberAt 5 = .ok (.bipush 60, 2) := kq.at kqdX8_numberAt_0 3 rfl
theorem dX8_numberAt_7 : decode cX8_numberAt 7 = .ok (.imul, 1) := kq.at kqdX8_numberAt_0 4 rfl
theorem dX8_numberAt_8 : decode cX8_numberAt 8 = .ok (.iload_n 2, 1) := kq.at kqdX8_numberAt_0 5 rfl
theorem dX8_numberAt_9 : decode cX8_numberAt 9 = .ok (.iadd, 1) := kq.at kqdX8_numberAt_0 6 rfl
theorem dX8_numberAt_10 : decode cX8_numberAt 10 = .ok (.laload, 1) := kq.at kqdX8_numberAt_0 7 rfl
theorem dX8_numberAt_11 : decode cX8_numberAt 11 = .ok (.lreturn, 1) := kq.at kqdX8_numberAt_0 8 rfl
theorem kqdX8_move_0 : kq cX8_move [(0, .aload_n 0, 1), (1, .getfield 11, 3), (4, .iload_n 1, 1), (5, .bipush 60, 2), (7, .imul, 1), (8, .iload_n 2, 1), (9, .iadd, 1), (10, .aload_n 0, 1), (11, .getfield 11, 3), (14, .iload_n 3, 1), (15, .bipush 60, 2), (17, .imul, 1), (18, .iload 4, 2), (20, .iadd, 1), (21, .iload 5, 2), (23, .invokestatic 29, 3), (26, .return_, 1)] = true := by decide +kernel
theorem dX8_move_0 : decode cX8_move 0 = .ok (.aload_n 0, 1) := kq.at kqdX8_move_0 0 rfl
theorem dX8_move_1 : decode cX8_move 1 = .ok (.getfield 11, 3) := kq.at kqdX8_move_0 1 rfl
theorem dX8_move_4 : decode cX8_move 4 = .ok (.iload_n 1, 1) := kq.at kqdX8_move_0 2 rfl
theorem dX8_move_5 : decode cX8_move 5 = .ok (.bipush 60, 2) := kq.at kqdX8_move_0 3 rfl
theorem dX8_move_7 : decode cX8_move 7 = .ok (.imul, 1) := kq.at kqdX8_move_0 4 rfl
theorem dX8_move_8 : decode cX8_move 8 = .ok (.iload_n 2, 1) := kq.at kqdX8_move_0 5 rfl
theorem dX8_move_9 : decode cX8_move 9 = .ok (.iadd, 1) := kq.at kqdX8_move_0 6 rfl
theorem dX8_move_10 : decode cX8_move 10 = .ok (.aload_n 0, 1) := kq.at kqdX8_move_0 7 rfl
theorem dX8_move_11 : decode cX8_move 11 = .ok (.getfield 11, 3) := kq.at kqdX8_move_0 8 rfl
theorem dX8_move_14 : decode cX8_move 14 = .ok (.iload_n 3, 1) := kq.at kqdX8_move_0 9 rfl
theorem dX8_move_15 : decode cX8_move 15 = .ok (.bipush 60, 2) := kq.at kqdX8_move_0 10 rfl
theorem dX8_move_17 : decode cX8_move 17 = .ok (.imul, 1) := kq.at kqdX8_move_0 11 rfl
theorem dX8_move_18 : decode cX8_move 18 = .ok (.iload 4, 2) := kq.at kqdX8_move_0 12 rfl
theorem dX8_move_20 : decode cX8_move 20 = .ok (.iadd, 1) := kq.at kqdX8_move_0 13 rfl
theorem dX8_move_21 : decode cX8_move 21 = .ok (.iload 5, 2) := kq.at kqdX8_move_0 14 rfl
theorem dX8_move_23 : decode cX8_move 23 = .ok (.invokestatic 29, 3) := kq.at kqdX8_move_0 15 rfl
theorem dX8_move_26 : decode cX8_move 26 = .ok (.return_, 1) := kq.at kqdX8_move_0 16 rfl
theorem kqdX8_areWithin_0 : kq cX8_areWithin [(0, .iconst 0, 1), (1, .istore 4, 2), (3, .iload 4, 2), (5, .iload_n 2, 1), (6, .if_icmp .ge 37, 3), (9, .aload_n 0, 1), (10, .iload_n 1, 1), (11, .iload 4, 2), (13, .invokevirtual 35, 3), (16, .lstore 5, 2), (18, .lload 5, 2), (20, .iload_n 3, 1), (21, .i2l, 1), (22, .lcmp, 1), (23, .ifCond .lt 12, 3), (26, .lload 5, 2), (28, .ldc2_w 39, 3), (31, .lcmp, 1), (32, .ifCond .le 5, 3), (35, .iconst 0, 1), (36, .ireturn, 1), (37, .iinc 4 1, 3), (40, .goto (-37), 3), (43, .iconst 1, 1)] = true := by decide +kernel
theorem dX8_areWithin_0 : decode cX8_areWithin 0 = .ok (.iconst 0, 1) := kq.at kqdX8_areWithin_0 0 rfl
theorem dX8_areWithin_1 : decode cX8_areWithin 1 = .ok (.istore 4, 2) := kq.at kqdX8_areWithin_0 1 rfl
theorem dX8_areWithin_3 : decode cX8_areWithin 3 = .ok (.iload 4, 2) := kq.at kqdX8_areWithin_0 2 rfl
theorem dX8_areWithin_5 : decode cX8_areWithin 5 = .ok (.iload_n 2, 1) := kq.at kqdX8_areWithin_0 3 rfl
theorem dX8_areWithin_6 : decode cX8_areWithin 6 = .ok (.if_icmp .ge 37, 3) := kq.at kqdX8_areWithin_0 4 rfl
theorem dX8_areWithin_9 : decode cX8_areWithin 9 = .ok (.aload_n 0, 1) := kq.at kqdX8_areWithin_0 5 rfl
theorem dX8_areWithin_10 : decode cX8_areWithin 10 = .ok (.iload_n 1, 1) := kq.at kqdX8_areWithin_0 6 rfl
theorem dX8_areWithin_11 : decode cX8_areWithin 11 = .ok (.iload 4, 2) := kq.at kqdX8_areWithin_0 7 rfl
theorem dX8_areWithin_13 : decode cX8_areWithin 13 = .ok (.invokevirtual 35, 3) := kq.at kqdX8_areWithin_0 8 rfl
theorem dX8_areWithin_16 : decode cX8_areWithin 16 = .ok (.lstore 5, 2) := kq.at kqdX8_areWithin_0 9 rfl
theorem dX8_areWithin_18 : decode cX8_areWithin 18 = .ok (.lload 5, 2) := kq.at kqdX8_areWithin_0 10 rfl
theorem dX8_areWithin_20 : decode cX8_areWithin 20 = .ok (.iload_n 3, 1) := kq.at kqdX8_areWithin_0 11 rfl
theorem dX8_areWithin_21 : decode cX8_areWithin 21 = .ok (.i2l, 1) := kq.at kqdX8_areWithin_0 12 rfl
theorem dX8_areWithin_22 : decode cX8_areWithin 22 = .ok (.lcmp, 1) := kq.at kqdX8_areWithin_0 13 rfl
theorem dX8_areWithin_23 : decode cX8_areWithin 23 = .ok (.ifCond .lt 12, 3) := kq.at kqdX8_areWithin_0 14 rfl
theorem dX8_areWithin_26 : decode cX8_areWithin 26 = .ok (.lload 5, 2) := kq.at kqdX8_areWithin_0 15 rfl
theorem dX8_areWithin_28 : decode cX8_areWithin 28 = .ok (.ldc2_w 39, 3) := kq.at kqdX8_areWithin_0 16 rfl
theorem dX8_areWithin_31 : decode cX8_areWithin 31 = .ok (.lcmp, 1) := kq.at kqdX8_areWithin_0 17 rfl
theorem dX8_areWithin_32 : decode cX8_areWithin 32 = .ok (.ifCond .le 5, 3) := kq.at kqdX8_areWithin_0 18 rfl
theorem dX8_areWithin_35 : decode cX8_areWithin 35 = .ok (.iconst 0, 1) := kq.at kqdX8_areWithin_0 19 rfl
theorem dX8_areWithin_36 : decode cX8_areWithin 36 = .ok (.ireturn, 1) := kq.at kqdX8_areWithin_0 20 rfl
theorem dX8_areWithin_37 : decode cX8_areWithin 37 = .ok (.iinc 4 1, 3) := kq.at kqdX8_areWithin_0 21 rfl
theorem dX8_areWithin_40 : decode cX8_areWithin 40 = .ok (.goto (-37), 3) := kq.at kqdX8_areWithin_0 22 rfl
theorem dX8_areWithin_43 : decode cX8_areWithin 43 = .ok (.iconst 1, 1) := kq.at kqdX8_areWithin_0 23 rfl
theorem dX8_areWithin_44 : decode cX8_areWithin 44 = .ok (.ireturn, 1) := by decide +kernel
theorem kqdX9_init_0 : kq cX9_init [(0, .aload_n 0, 1), (1, .invokespecial 3, 3), (4, .aload_n 0, 1), (5, .sipush 1200, 3), (8, .newarray .int, 2), (10, .putfield 9, 3), (13, .aload_n 0, 1), (14, .iconst 0, 1), (15, .putfield 15, 3), (18, .aload_n 0, 1), (19, .iconst 0, 1), (20, .putfield 19, 3), (23, .return_, 1)] = true := by decide +kernel
theorem dX9_init_0 : decode cX9_init 0 = .ok (.aload_n 0, 1) := kq.at kqdX9_init_0 0 rfl
theorem dX9_init_1 : decode cX9_init 1 = .ok (.invokespecial 3, 3) := kq.at kqdX9_init_0 1 rfl
theorem dX9_init_4 : decode cX9_init 4 = .ok (.aload_n 0, 1) := kq.at kqdX9_init_0 2 rfl
theorem dX9_init_5 : decode cX9_init 5 = .ok (.sipush 1200, 3) := kq.at kqdX9_init_0 3 rfl
theorem dX9_init_8 : decode cX9_init 8 = .ok (.newarray .int, 2) := kq.at kqdX9_init_0 4 rfl
theorem dX9_init_10 : decode cX9_init 10 = .ok (.putfield 9, 3) := kq.at kqdX9_init_0 5 rfl
theorem dX9_init_13 : decode cX9_init 13 = .ok (.aload_n 0, 1) := kq.at kqdX9_init_0 6 rfl
theorem dX9_init_14 : decode cX9_init 14 = .ok (.iconst 0, 1) := kq.at kqdX9_init_0 7 rfl
theorem dX9_init_15 : decode cX9_init 15 = .ok (.putfield 15, 3) := kq.at kqdX9_init_0 8 rfl
theorem dX9_init_18 : decode cX9_init 18 = .ok (.aload_n 0, 1) := kq.at kqdX9_init_0 9 rfl
theorem dX9_init_19 : decode cX9_init 19 = .ok (.iconst 0, 1) := kq.at kqdX9_init_0 10 rfl
theorem dX9_init_20 : decode cX9_init 20 = .ok (.putfield 19, 3) := kq.at kqdX9_init_0 11 rfl
theorem dX9_init_23 : decode cX9_init 23 = .ok (.return_, 1) := kq.at kqdX9_init_0 12 rfl
theorem kqdX9_wearOff_0 : kq cX9_wearOff [(0, .aload_n 0, 1), (1, .iload_n 2, 1), (2, .putfield 19, 3), (5, .aload_n 0, 1), (6, .aload_n 1, 1), (7, .getfield 22, 3), (10, .putfield 15, 3), (13, .iconst 0, 1), (14, .istore 4, 2), (16, .iconst 0, 1), (17, .istore 5, 2), (19, .iload 5, 2), (21, .aload_n 0, 1), (22, .getfield 15, 3), (25, .if_icmp .ge 54, 3), (28, .aload_n 0, 1), (29, .getfield 9, 3), (32, .iload 5, 2), (34, .aload_n 0, 1), (35, .aload_n 1, 1), (36, .getfield 25, 3), (39, .iload 5, 2), (41, .iaload, 1), (42, .iload_n 3, 1)] = true := by decide +kernel
theorem dX9_wearOff_0 : decode cX9_wearOff 0 = .ok (.aload_n 0, 1) := kq.at kqdX9_wearOff_0 0 rfl
theorem dX9_wearOff_1 : decode cX9_wearOff 1 = .ok (.iload_n 2, 1) := kq.at kqdX9_wearOff_0 1 rfl
theorem dX9_wearOff_2 : decode cX9_wearOff 2 = .ok (.putfield 19, 3) := kq.at kqdX9_wearOff_0 2 rfl
theorem dX9_wearOff_5 : decode cX9_wearOff 5 = .ok (.aload_n 0, 1) := kq.at kqdX9_wearOff_0 3 rfl
theorem dX9_wearOff_6 : decode cX9_wearOff 6 = .ok (.aload_n 1, 1) := kq.at kqdX9_wearOff_0 4 rfl
theorem dX9_wearOff_7 : decode cX9_wearOff 7 = .ok (.getfield 22, 3) := kq.at kqdX9_wearOff_0 5 rfl
theorem dX9_wearOff_10 : decode cX9_wearOff 10 = .ok (.putfield 15, 3) := kq.at kqdX9_wearOff_0 6 rfl
theorem dX9_wearOff_13 : decode cX9_wearOff 13 = .ok (.iconst 0, 1) := kq.at kqdX9_wearOff_0 7 rfl
theorem dX9_wearOff_14 : decode cX9_wearOff 14 = .ok (.istore 4, 2) := kq.at kqdX9_wearOff_0 8 rfl
theorem dX9_wearOff_16 : decode cX9_wearOff 16 = .ok (.iconst 0, 1) := kq.at kqdX9_wearOff_0 9 rfl
theorem dX9_wearOff_17 : decode cX9_wearOff 17 = .ok (.istore 5, 2) := kq.at kqdX9_wearOff_0 10 rfl
theorem dX9_wearOff_19 : decode cX9_wearOff 19 = .ok (.iload 5, 2) := kq.at kqdX9_wearOff_0 11 rfl
theorem dX9_wearOff_21 : decode cX9_wearOff 21 = .ok (.aload_n 0, 1) := kq.at kqdX9_wearOff_0 12 rfl
theorem dX9_wearOff_22 : decode cX9_wearOff 22 = .ok (.getfield 15, 3) := kq.at kqdX9_wearOff_0 13 rfl
theorem dX9_wearOff_25 : decode cX9_wearOff 25 = .ok (.if_icmp .ge 54, 3) := kq.at kqdX9_wearOff_0 14 rfl
theorem dX9_wearOff_28 : decode cX9_wearOff 28 = .ok (.aload_n 0, 1) := kq.at kqdX9_wearOff_0 15 rfl
theorem dX9_wearOff_29 : decode cX9_wearOff 29 = .ok (.getfield 9, 3) := kq.at kqdX9_wearOff_0 16 rfl
theorem dX9_wearOff_32 : decode cX9_wearOff 32 = .ok (.iload 5, 2) := kq.at kqdX9_wearOff_0 17 rfl
theorem dX9_wearOff_34 : decode cX9_wearOff 34 = .ok (.aload_n 0, 1) := kq.at kqdX9_wearOff_0 18 rfl
theorem dX9_wearOff_35 : decode cX9_wearOff 35 = .ok (.aload_n 1, 1) := kq.at kqdX9_wearOff_0 19 rfl
theorem dX9_wearOff_36 : decode cX9_wearOff 36 = .ok (.getfield 25, 3) := kq.at kqdX9_wearOff_0 20 rfl
theorem dX9_wearOff_39 : decode cX9_wearOff 39 = .ok (.iload 5, 2) := kq.at kqdX9_wearOff_0 21 rfl
theorem dX9_wearOff_41 : decode cX9_wearOff 41 = .ok (.iaload, 1) := kq.at kqdX9_wearOff_0 22 rfl
theorem dX9_wearOff_42 : decode cX9_wearOff 42 = .ok (.iload_n 3, 1) := kq.at kqdX9_wearOff_0 23 rfl
theorem kqdX9_wearOff_43 : kq cX9_wearOff [(43, .invokevirtual 26, 3), (46, .iastore, 1), (47, .iload 4, 2), (49, .aload_n 1, 1), (50, .getfield 25, 3), (53, .iload 5, 2), (55, .iaload, 1), (56, .invokestatic 30, 3), (59, .aload_n 0, 1), (60, .getfield 9, 3), (63, .iload 5, 2), (65, .iaload, 1), (66, .invokestatic 30, 3), (69, .isub, 1), (70, .iadd, 1), (71, .istore 4, 2), (73, .iinc 5 1, 3), (76, .goto (-57), 3), (79, .iload 4, 2), (81, .ireturn, 1)] = true := by decide +kernel
theorem dX9_wearOff_43 : decode cX9_wearOff 43 = .ok (.invokevirtual 26, 3) := kq.at kqdX9_wearOff_43 0 rfl
theorem dX9_wearOff_46 : decode cX9_wearOff 46 = .ok (.iastore, 1) := kq.at kqdX9_wearOff_43 1 rfl
theorem dX9_wearOff_47 : decode cX9_wearOff 47 = .ok (.iload 4, 2) := kq.at kqdX9_wearOff_43 2 rfl
theorem dX9_wearOff_49 : decode cX9_wearOff 49 = .ok (.aload_n 1, 1) := kq.at kqdX9_wearOff_43 3 rfl
theorem dX9_wearOff_50 : decode cX9_wearOff 50 = .ok (.getfield 25, 3) := kq.at kqdX9_wearOff_43 4 rfl
theorem dX9_wearOff_53 : decode cX9_wearOff 53 = .ok (.iload 5, 2) := kq.at kqdX9_wearOff_43 5 rfl
theorem dX9_wearOff_55 : decode cX9_wearOff 55 = .ok (.iaload, 1) := kq.at kqdX9_wearOff_43 6 rfl
theorem dX9_wearOff_56 : decode cX9_wearOff 56 = .ok (.invokestatic 30, 3) := kq.at kqdX9_wearOff_43 7 rfl
theorem dX9_wearOff_59 : decode cX9_wearOff 59 = .ok (.aload_n 0, 1) := kq.at kqdX9_wearOff_43 8 rfl
theorem dX9_wearOff_60 : decode cX9_wearOff 60 = .ok (.getfield 9, 3) := kq.at kqdX9_wearOff_43 9 rfl
theorem dX9_wearOff_63 : decode cX9_wearOff 63 = .ok (.iload 5, 2) := kq.at kqdX9_wearOff_43 10 rfl
theorem dX9_wearOff_65 : decode cX9_wearOff 65 = .ok (.iaload, 1) := kq.at kqdX9_wearOff_43 11 rfl
theorem dX9_wearOff_66 : decode cX9_wearOff 66 = .ok (.invokestatic 30, 3) := kq.at kqdX9_wearOff_43 12 rfl
theorem dX9_wearOff_69 : decode cX9_wearOff 69 = .ok (.isub, 1) := kq.at kqdX9_wearOff_43 13 rfl
theorem dX9_wearOff_70 : decode cX9_wearOff 70 = .ok (.iadd, 1) := kq.at kqdX9_wearOff_43 14 rfl
theorem dX9_wearOff_71 : decode cX9_wearOff 71 = .ok (.istore 4, 2) := kq.at kqdX9_wearOff_43 15 rfl
theorem dX9_wearOff_73 : decode cX9_wearOff 73 = .ok (.iinc 5 1, 3) := kq.at kqdX9_wearOff_43 16 rfl
theorem dX9_wearOff_76 : decode cX9_wearOff 76 = .ok (.goto (-57), 3) := kq.at kqdX9_wearOff_43 17 rfl
theorem dX9_wearOff_79 : decode cX9_wearOff 79 = .ok (.iload 4, 2) := kq.at kqdX9_wearOff_43 18 rfl
theorem dX9_wearOff_81 : decode cX9_wearOff 81 = .ok (.ireturn, 1) := kq.at kqdX9_wearOff_43 19 rfl
theorem kqdX9_leavesNoneBare_0 : kq cX9_leavesNoneBare [(0, .aload_n 0, 1), (1, .iload_n 2, 1), (2, .putfield 19, 3), (5, .iconst 0, 1), (6, .istore 4, 2), (8, .iload 4, 2), (10, .aload_n 1, 1), (11, .getfield 22, 3), (14, .if_icmp .ge 36, 3), (17, .aload_n 1, 1), (18, .getfield 25, 3), (21, .iload 4, 2), (23, .iaload, 1), (24, .ifCond .eq 20, 3), (27, .aload_n 0, 1), (28, .aload_n 1, 1), (29, .getfield 25, 3), (32, .iload 4, 2), (34, .iaload, 1), (35, .iload_n 3, 1), (36, .invokevirtual 26, 3), (39, .ifCond .ne 5, 3), (42, .iconst 0, 1), (43, .ireturn, 1)] = true := by decide +kernel
theorem dX9_leavesNoneBare_0 : decode cX9_leavesNoneBare 0 = .ok (.aload_n 0, 1) := kq.at kqdX9_leavesNoneBare_0 0 rfl
theorem dX9_leavesNoneBare_1 : decode cX9_leavesNoneBare 1 = .ok (.iload_n 2, 1) := kq.at kqdX9_leavesNoneBare_0 1 rfl
theorem dX9_leavesNoneBare_2 : decode cX9_leavesNoneBare 2 = .ok (.putfield 19, 3) := kq.at kqdX9_leavesNoneBare_0 2 rfl
theorem dX9_leavesNoneBare_5 : decode cX9_leavesNoneBare 5 = .ok (.iconst 0, 1) := kq.at kqdX9_leavesNoneBare_0 3 rfl
theorem dX9_leavesNoneBare_6 : decode cX9_leavesNoneBare 6 = .ok (.istore 4, 2) := kq.at kqdX9_leavesNoneBare_0 4 rfl
theorem dX9_leavesNoneBare_8 : decode cX9_leavesNoneBare 8 = .ok (.iload 4, 2) := kq.at kqdX9_leavesNoneBare_0 5 rfl
theorem dX9_leavesNoneBare_10 : decode cX9_leavesNoneBare 10 = .ok (.aload_n 1, 1) := kq.at kqdX9_leavesNoneBare_0 6 rfl
theorem dX9_leavesNoneBare_11 : decode cX9_leavesNoneBare 11 = .ok (.getfield 22, 3) := kq.at kqdX9_leavesNoneBare_0 7 rfl
theorem dX9_leavesNoneBare_14 : decode cX9_leavesNoneBare 14 = .ok (.if_icmp .ge 36, 3) := kq.at kqdX9_leavesNoneBare_0 8 rfl
theorem dX9_leavesNoneBare_17 : decode cX9_leavesNoneBare 17 = .ok (.aload_n 1, 1) := kq.at kqdX9_leavesNoneBare_0 9 rfl
theorem dX9_leavesNoneBare_18 : decode cX9_leavesNoneBare 18 = .ok (.getfield 25, 3) := kq.at kqdX9_leavesNoneBare_0 10 rfl
theorem dX9_leavesNoneBare_21 : decode cX9_leavesNoneBare 21 = .ok (.iload 4, 2) := kq.at kqdX9_leavesNoneBare_0 11 rfl
theorem dX9_leavesNoneBare_23 : decode cX9_leavesNoneBare 23 = .ok (.iaload, 1) := kq.at kqdX9_leavesNoneBare_0 12 rfl
theorem dX9_leavesNoneBare_24 : decode cX9_leavesNoneBare 24 = .ok (.ifCond .eq 20, 3) := kq.at kqdX9_leavesNoneBare_0 13 rfl
theorem dX9_leavesNoneBare_27 : decode cX9_leavesNoneBare 27 = .ok (.aload_n 0, 1) := kq.at kqdX9_leavesNoneBare_0 14 rfl
theorem dX9_leavesNoneBare_28 : decode cX9_leavesNoneBare 28 = .ok (.aload_n 1, 1) := kq.at kqdX9_leavesNoneBare_0 15 rfl
theorem dX9_leavesNoneBare_29 : decode cX9_leavesNoneBare 29 = .ok (.getfield 25, 3) := kq.at kqdX9_leavesNoneBare_0 16 rfl
theorem dX9_leavesNoneBare_32 : decode cX9_leavesNoneBare 32 = .ok (.iload 4, 2) := kq.at kqdX9_leavesNoneBare_0 17 rfl
theorem dX9_leavesNoneBare_34 : decode cX9_leavesNoneBare 34 = .ok (.iaload, 1) := kq.at kqdX9_leavesNoneBare_0 18 rfl
theorem dX9_leavesNoneBare_35 : decode cX9_leavesNoneBare 35 = .ok (.iload_n 3, 1) := kq.at kqdX9_leavesNoneBare_0 19 rfl
theorem dX9_leavesNoneBare_36 : decode cX9_leavesNoneBare 36 = .ok (.invokevirtual 26, 3) := kq.at kqdX9_leavesNoneBare_0 20 rfl
theorem dX9_leavesNoneBare_39 : decode cX9_leavesNoneBare 39 = .ok (.ifCond .ne 5, 3) := kq.at kqdX9_leavesNoneBare_0 21 rfl
theorem dX9_leavesNoneBare_42 : decode cX9_leavesNoneBare 42 = .ok (.iconst 0, 1) := kq.at kqdX9_leavesNoneBare_0 22 rfl
theorem dX9_leavesNoneBare_43 : decode cX9_leavesNoneBare 43 = .ok (.ireturn, 1) := kq.at kqdX9_leavesNoneBare_0 23 rfl
theorem kqdX9_leavesNoneBare_44 : kq cX9_leavesNoneBare [(44, .iinc 4 1, 3), (47, .goto (-39), 3), (50, .iconst 1, 1), (51, .ireturn, 1)] = true := by decide +kernel
theorem dX9_leavesNoneBare_44 : decode cX9_leavesNoneBare 44 = .ok (.iinc 4 1, 3) := kq.at kqdX9_leavesNoneBare_44 0 rfl
theorem dX9_leavesNoneBare_47 : decode cX9_leavesNoneBare 47 = .ok (.goto (-39), 3) := kq.at kqdX9_leavesNoneBare_44 1 rfl
theorem dX9_leavesNoneBare_50 : decode cX9_leavesNoneBare 50 = .ok (.iconst 1, 1) := kq.at kqdX9_leavesNoneBare_44 2 rfl
theorem dX9_leavesNoneBare_51 : decode cX9_leavesNoneBare 51 = .ok (.ireturn, 1) := kq.at kqdX9_leavesNoneBare_44 3 rfl
theorem kqdX9_leftOf_0 : kq cX9_leftOf [(0, .iload_n 1, 1), (1, .istore_n 3, 1), (2, .iconst 1, 1), (3, .istore 4, 2), (5, .iload 4, 2), (7, .bipush 63, 2), (9, .if_icmp .gt 59, 3), (12, .iload_n 1, 1), (13, .iload 4, 2), (15, .iand, 1), (16, .ifCond .eq 43, 3), (19, .aload_n 0, 1), (20, .aload_n 0, 1), (21, .getfield 19, 3), (24, .sipush 2801, 3), (27, .imul, 1), (28, .sipush 10163, 3), (31, .iadd, 1), (32, .ldc 36, 2), (34, .irem, 1), (35, .putfield 19, 3), (38, .aload_n 0, 1), (39, .getfield 19, 3), (42, .bipush 8, 2)] = true := by decide +kernel
theorem dX9_leftOf_0 : decode cX9_leftOf 0 = .ok (.iload_n 1, 1) := kq.at kqdX9_leftOf_0 0 rfl
theorem dX9_leftOf_1 : decode cX9_leftOf 1 = .ok (.istore_n 3, 1) := kq.at kqdX9_leftOf_0 1 rfl
theorem dX9_leftOf_2 : decode cX9_leftOf 2 = .ok (.iconst 1, 1) := kq.at kqdX9_leftOf_0 2 rfl
theorem dX9_leftOf_3 : decode cX9_leftOf 3 = .ok (.istore 4, 2) := kq.at kqdX9_leftOf_0 3 rfl
theorem dX9_leftOf_5 : decode cX9_leftOf 5 = .ok (.iload 4, 2) := kq.at kqdX9_leftOf_0 4 rfl
theorem dX9_leftOf_7 : decode cX9_leftOf 7 = .ok (.bipush 63, 2) := kq.at kqdX9_leftOf_0 5 rfl
theorem dX9_leftOf_9 : decode cX9_leftOf 9 = .ok (.if_icmp .gt 59, 3) := kq.at kqdX9_leftOf_0 6 rfl
theorem dX9_leftOf_12 : decode cX9_leftOf 12 = .ok (.iload_n 1, 1) := kq.at kqdX9_leftOf_0 7 rfl
theorem dX9_leftOf_13 : decode cX9_leftOf 13 = .ok (.iload 4, 2) := kq.at kqdX9_leftOf_0 8 rfl
theorem dX9_leftOf_15 : decode cX9_leftOf 15 = .ok (.iand, 1) := kq.at kqdX9_leftOf_0 9 rfl
theorem dX9_leftOf_16 : decode cX9_leftOf 16 = .ok (.ifCond .eq 43, 3) := kq.at kqdX9_leftOf_0 10 rfl
theorem dX9_leftOf_19 : decode cX9_leftOf 19 = .ok (.aload_n 0, 1) := kq.at kqdX9_leftOf_0 11 rfl
theorem dX9_leftOf_20 : decode cX9_leftOf 20 = .ok (.aload_n 0, 1) := kq.at kqdX9_leftOf_0 12 rfl
theorem dX9_leftOf_21 : decode cX9_leftOf 21 = .ok (.getfield 19, 3) := kq.at kqdX9_leftOf_0 13 rfl
theorem dX9_leftOf_24 : decode cX9_leftOf 24 = .ok (.sipush 2801, 3) := kq.at kqdX9_leftOf_0 14 rfl
theorem dX9_leftOf_27 : decode cX9_leftOf 27 = .ok (.imul, 1) := kq.at kqdX9_leftOf_0 15 rfl
theorem dX9_leftOf_28 : decode cX9_leftOf 28 = .ok (.sipush 10163, 3) := kq.at kqdX9_leftOf_0 16 rfl
theorem dX9_leftOf_31 : decode cX9_leftOf 31 = .ok (.iadd, 1) := kq.at kqdX9_leftOf_0 17 rfl
theorem dX9_leftOf_32 : decode cX9_leftOf 32 = .ok (.ldc 36, 2) := kq.at kqdX9_leftOf_0 18 rfl
theorem dX9_leftOf_34 : decode cX9_leftOf 34 = .ok (.irem, 1) := kq.at kqdX9_leftOf_0 19 rfl
theorem dX9_leftOf_35 : decode cX9_leftOf 35 = .ok (.putfield 19, 3) := kq.at kqdX9_leftOf_0 20 rfl
theorem dX9_leftOf_38 : decode cX9_leftOf 38 = .ok (.aload_n 0, 1) := kq.at kqdX9_leftOf_0 21 rfl
theorem dX9_leftOf_39 : decode cX9_leftOf 39 = .ok (.getfield 19, 3) := kq.at kqdX9_leftOf_0 22 rfl
theorem dX9_leftOf_42 : decode cX9_leftOf 42 = .ok (.bipush 8, 2) := kq.at kqdX9_leftOf_0 23 rfl
theorem kqdX9_leftOf_44 : kq cX9_leftOf [(44, .idiv, 1), (45, .bipush 16, 2), (47, .irem, 1), (48, .iload_n 2, 1), (49, .if_icmp .ge 10, 3), (52, .iload_n 3, 1), (53, .iload 4, 2), (55, .iconst (-1), 1), (56, .ixor, 1), (57, .iand, 1), (58, .istore_n 3, 1), (59, .iload 4, 2), (61, .iconst 1, 1), (62, .ishl, 1), (63, .istore 4, 2), (65, .goto (-60), 3), (68, .iload_n 3, 1), (69, .ireturn, 1)] = true := by decide +kernel
theorem dX9_leftOf_44 : decode cX9_leftOf 44 = .ok (.idiv, 1) := kq.at kqdX9_leftOf_44 0 rfl
theorem dX9_leftOf_45 : decode cX9_leftOf 45 = .ok (.bipush 16, 2) := kq.at kqdX9_leftOf_44 1 rfl
theorem dX9_leftOf_47 : decode cX9_leftOf 47 = .ok (.irem, 1) := kq.at kqdX9_leftOf_44 2 rfl
theorem dX9_leftOf_48 : decode cX9_leftOf 48 = .ok (.iload_n 2, 1) := kq.at kqdX9_leftOf_44 3 rfl
theorem dX9_leftOf_49 : decode cX9_leftOf 49 = .ok (.if_icmp .ge 10, 3) := kq.at kqdX9_leftOf_44 4 rfl
theorem dX9_leftOf_52 : decode cX9_leftOf 52 = .ok (.iload_n 3, 1) := kq.at kqdX9_leftOf_44 5 rfl
theorem dX9_leftOf_53 : decode cX9_leftOf 53 = .ok (.iload 4, 2) := kq.at kqdX9_leftOf_44 6 rfl
theorem dX9_leftOf_55 : decode cX9_leftOf 55 = .ok (.iconst (-1), 1) := kq.at kqdX9_leftOf_44 7 rfl
theorem dX9_leftOf_56 : decode cX9_leftOf 56 = .ok (.ixor, 1) := kq.at kqdX9_leftOf_44 8 rfl
theorem dX9_leftOf_57 : decode cX9_leftOf 57 = .ok (.iand, 1) := kq.at kqdX9_leftOf_44 9 rfl
theorem dX9_leftOf_58 : decode cX9_leftOf 58 = .ok (.istore_n 3, 1) := kq.at kqdX9_leftOf_44 10 rfl
theorem dX9_leftOf_59 : decode cX9_leftOf 59 = .ok (.iload 4, 2) := kq.at kqdX9_leftOf_44 11 rfl
theorem dX9_leftOf_61 : decode cX9_leftOf 61 = .ok (.iconst 1, 1) := kq.at kqdX9_leftOf_44 12 rfl
theorem dX9_leftOf_62 : decode cX9_leftOf 62 = .ok (.ishl, 1) := kq.at kqdX9_leftOf_44 13 rfl
theorem dX9_leftOf_63 : decode cX9_leftOf 63 = .ok (.istore 4, 2) := kq.at kqdX9_leftOf_44 14 rfl
theorem dX9_leftOf_65 : decode cX9_leftOf 65 = .ok (.goto (-60), 3) := kq.at kqdX9_leftOf_44 15 rfl
theorem dX9_leftOf_68 : decode cX9_leftOf 68 = .ok (.iload_n 3, 1) := kq.at kqdX9_leftOf_44 16 rfl
theorem dX9_leftOf_69 : decode cX9_leftOf 69 = .ok (.ireturn, 1) := kq.at kqdX9_leftOf_44 17 rfl
theorem kqdX10_init_0 : kq cX10_init [(0, .aload_n 0, 1), (1, .invokespecial 3, 3), (4, .aload_n 0, 1), (5, .sipush 900, 3), (8, .newarray .int, 2), (10, .putfield 9, 3), (13, .aload_n 0, 1), (14, .iconst 0, 1), (15, .putfield 13, 3), (18, .aload_n 0, 1), (19, .iconst 0, 1), (20, .putfield 17, 3), (23, .aload_n 0, 1), (24, .iconst (-1), 1), (25, .putfield 20, 3), (28, .aload_n 0, 1), (29, .iconst (-1), 1), (30, .putfield 23, 3), (33, .aload_n 0, 1), (34, .lconst 0, 1), (35, .putfield 26, 3), (38, .aload_n 0, 1), (39, .lconst 1, 1), (40, .putfield 30, 3)] = true := by decide +kernel
theorem dX10_init_0 : decode cX10_init 0 = .ok (.aload_n 0, 1) := kq.at kqdX10_init_0 0 rfl
theorem dX10_init_1 : decode cX10_init 1 = .ok (.invokespecial 3, 3) := kq.at kqdX10_init_0 1 rfl
theorem dX10_init_4 : decode cX10_init 4 = .ok (.aload_n 0, 1) := kq.at kqdX10_init_0 2 rfl
theorem dX10_init_5 : decode cX10_init 5 = .ok (.sipush 900, 3) := kq.at kqdX10_init_0 3 rfl
theorem dX10_init_8 : decode cX10_init 8 = .ok (.newarray .int, 2) := kq.at kqdX10_init_0 4 rfl
theorem dX10_init_10 : decode cX10_init 10 = .ok (.putfield 9, 3) := kq.at kqdX10_init_0 5 rfl
theorem dX10_init_13 : decode cX10_init 13 = .ok (.aload_n 0, 1) := kq.at kqdX10_init_0 6 rfl
theorem dX10_init_14 : decode cX10_init 14 = .ok (.iconst 0, 1) := kq.at kqdX10_init_0 7 rfl
theorem dX10_init_15 : decode cX10_init 15 = .ok (.putfield 13, 3) := kq.at kqdX10_init_0 8 rfl
theorem dX10_init_18 : decode cX10_init 18 = .ok (.aload_n 0, 1) := kq.at kqdX10_init_0 9 rfl
theorem dX10_init_19 : decode cX10_init 19 = .ok (.iconst 0, 1) := kq.at kqdX10_init_0 10 rfl
theorem dX10_init_20 : decode cX10_init 20 = .ok (.putfield 17, 3) := kq.at kqdX10_init_0 11 rfl
theorem dX10_init_23 : decode cX10_init 23 = .ok (.aload_n 0, 1) := kq.at kqdX10_init_0 12 rfl
theorem dX10_init_24 : decode cX10_init 24 = .ok (.iconst (-1), 1) := kq.at kqdX10_init_0 13 rfl
theorem dX10_init_25 : decode cX10_init 25 = .ok (.putfield 20, 3) := kq.at kqdX10_init_0 14 rfl
theorem dX10_init_28 : decode cX10_init 28 = .ok (.aload_n 0, 1) := kq.at kqdX10_init_0 15 rfl
theorem dX10_init_29 : decode cX10_init 29 = .ok (.iconst (-1), 1) := kq.at kqdX10_init_0 16 rfl
theorem dX10_init_30 : decode cX10_init 30 = .ok (.putfield 23, 3) := kq.at kqdX10_init_0 17 rfl
theorem dX10_init_33 : decode cX10_init 33 = .ok (.aload_n 0, 1) := kq.at kqdX10_init_0 18 rfl
theorem dX10_init_34 : decode cX10_init 34 = .ok (.lconst 0, 1) := kq.at kqdX10_init_0 19 rfl
theorem dX10_init_35 : decode cX10_init 35 = .ok (.putfield 26, 3) := kq.at kqdX10_init_0 20 rfl
theorem dX10_init_38 : decode cX10_init 38 = .ok (.aload_n 0, 1) := kq.at kqdX10_init_0 21 rfl
theorem dX10_init_39 : decode cX10_init 39 = .ok (.lconst 1, 1) := kq.at kqdX10_init_0 22 rfl
theorem dX10_init_40 : decode cX10_init 40 = .ok (.putfield 30, 3) := kq.at kqdX10_init_0 23 rfl
theorem kqdX10_init_43 : kq cX10_init [(43, .aload_n 0, 1), (44, .new 33, 3), (47, .dup, 1), (48, .invokespecial 35, 3), (51, .putfield 36, 3), (54, .aload_n 0, 1), (55, .new 40, 3), (58, .dup, 1), (59, .invokespecial 42, 3), (62, .putfield 43, 3), (65, .aload_n 0, 1), (66, .new 47, 3), (69, .dup, 1), (70, .invokespecial 49, 3), (73, .putfield 50, 3), (76, .aload_n 0, 1), (77, .new 54, 3), (80, .dup, 1), (81, .invokespecial 56, 3), (84, .putfield 57, 3), (87, .aload_n 0, 1), (88, .iconst 0, 1), (89, .putfield 61, 3), (92, .aload_n 0, 1)] = true := by decide +kernel
theorem dX10_init_43 : decode cX10_init 43 = .ok (.aload_n 0, 1) := kq.at kqdX10_init_43 0 rfl
theorem dX10_init_44 : decode cX10_init 44 = .ok (.new 33, 3) := kq.at kqdX10_init_43 1 rfl
theorem dX10_init_47 : decode cX10_init 47 = .ok (.dup, 1) := kq.at kqdX10_init_43 2 rfl
theorem dX10_init_48 : decode cX10_init 48 = .ok (.invokespecial 35, 3) := kq.at kqdX10_init_43 3 rfl
theorem dX10_init_51 : decode cX10_init 51 = .ok (.putfield 36, 3) := kq.at kqdX10_init_43 4 rfl
theorem dX10_init_54 : decode cX10_init 54 = .ok (.aload_n 0, 1) := kq.at kqdX10_init_43 5 rfl
theorem dX10_init_55 : decode cX10_init 55 = .ok (.new 40, 3) := kq.at kqdX10_init_43 6 rfl
theorem dX10_init_58 : decode cX10_init 58 = .ok (.dup, 1) := kq.at kqdX10_init_43 7 rfl
theorem dX10_init_59 : decode cX10_init 59 = .ok (.invokespecial 42, 3) := kq.at kqdX10_init_43 8 rfl
theorem dX10_init_62 : decode cX10_init 62 = .ok (.putfield 43, 3) := kq.at kqdX10_init_43 9 rfl
theorem dX10_init_65 : decode cX10_init 65 = .ok (.aload_n 0, 1) := kq.at kqdX10_init_43 10 rfl
theorem dX10_init_66 : decode cX10_init 66 = .ok (.new 47, 3) := kq.at kqdX10_init_43 11 rfl
theorem dX10_init_69 : decode cX10_init 69 = .ok (.dup, 1) := kq.at kqdX10_init_43 12 rfl
theorem dX10_init_70 : decode cX10_init 70 = .ok (.invokespecial 49, 3) := kq.at kqdX10_init_43 13 rfl
theorem dX10_init_73 : decode cX10_init 73 = .ok (.putfield 50, 3) := kq.at kqdX10_init_43 14 rfl
theorem dX10_init_76 : decode cX10_init 76 = .ok (.aload_n 0, 1) := kq.at kqdX10_init_43 15 rfl
theorem dX10_init_77 : decode cX10_init 77 = .ok (.new 54, 3) := kq.at kqdX10_init_43 16 rfl
theorem dX10_init_80 : decode cX10_init 80 = .ok (.dup, 1) := kq.at kqdX10_init_43 17 rfl
theorem dX10_init_81 : decode cX10_init 81 = .ok (.invokespecial 56, 3) := kq.at kqdX10_init_43 18 rfl
theorem dX10_init_84 : decode cX10_init 84 = .ok (.putfield 57, 3) := kq.at kqdX10_init_43 19 rfl
theorem dX10_init_87 : decode cX10_init 87 = .ok (.aload_n 0, 1) := kq.at kqdX10_init_43 20 rfl
theorem dX10_init_88 : decode cX10_init 88 = .ok (.iconst 0, 1) := kq.at kqdX10_init_43 21 rfl
theorem dX10_init_89 : decode cX10_init 89 = .ok (.putfield 61, 3) := kq.at kqdX10_init_43 22 rfl
theorem dX10_init_92 : decode cX10_init 92 = .ok (.aload_n 0, 1) := kq.at kqdX10_init_43 23 rfl
theorem kqdX10_init_93 : kq cX10_init [(93, .new 65, 3), (96, .dup, 1), (97, .invokespecial 67, 3), (100, .putfield 68, 3), (103, .aload_n 0, 1), (104, .new 65, 3), (107, .dup, 1), (108, .invokespecial 67, 3), (111, .putfield 72, 3), (114, .aload_n 0, 1), (115, .new 75, 3), (118, .dup, 1), (119, .invokespecial 77, 3), (122, .putfield 78, 3), (125, .aload_n 0, 1), (126, .new 82, 3), (129, .dup, 1), (130, .invokespecial 84, 3), (133, .putfield 85, 3), (136, .aload_n 0, 1), (137, .new 89, 3), (140, .dup, 1), (141, .invokespecial 91, 3), (144, .putfield 92, 3)] = true := by decide +kernel
theorem dX10_init_93 : decode cX10_init 93 = .ok (.new 65, 3) := kq.at kqdX10_init_93 0 rfl
theorem dX10_init_96 : decode cX10_init 96 = .ok (.dup, 1) := kq.at kqdX10_init_93 1 rfl
theorem dX10_init_97 : decode cX10_init 97 = .ok (.invokespecial 67, 3) := kq.at kqdX10_init_93 2 rfl
theorem dX10_init_100 : decode cX10_init 100 = .ok (.putfield 68, 3) := kq.at kqdX10_init_93 3 rfl
theorem dX10_init_103 : decode cX10_init 103 = .ok (.aload_n 0, 1) := kq.at kqdX10_init_93 4 rfl
theorem dX10_init_104 : decode cX10_init 104 = .ok (.new 65, 3) := kq.at kqdX10_init_93 5 rfl
theorem dX10_init_107 : decode cX10_init 107 = .ok (.dup, 1) := kq.at kqdX10_init_93 6 rfl
theorem dX10_init_108 : decode cX10_init 108 = .ok (.invokespecial 67, 3) := kq.at kqdX10_init_93 7 rfl
theorem dX10_init_111 : decode cX10_init 111 = .ok (.putfield 72, 3) := kq.at kqdX10_init_93 8 rfl
theorem dX10_init_114 : decode cX10_init 114 = .ok (.aload_n 0, 1) := kq.at kqdX10_init_93 9 rfl
theorem dX10_init_115 : decode cX10_init 115 = .ok (.new 75, 3) := kq.at kqdX10_init_93 10 rfl
theorem dX10_init_118 : decode cX10_init 118 = .ok (.dup, 1) := kq.at kqdX10_init_93 11 rfl
theorem dX10_init_119 : decode cX10_init 119 = .ok (.invokespecial 77, 3) := kq.at kqdX10_init_93 12 rfl
theorem dX10_init_122 : decode cX10_init 122 = .ok (.putfield 78, 3) := kq.at kqdX10_init_93 13 rfl
theorem dX10_init_125 : decode cX10_init 125 = .ok (.aload_n 0, 1) := kq.at kqdX10_init_93 14 rfl
theorem dX10_init_126 : decode cX10_init 126 = .ok (.new 82, 3) := kq.at kqdX10_init_93 15 rfl
theorem dX10_init_129 : decode cX10_init 129 = .ok (.dup, 1) := kq.at kqdX10_init_93 16 rfl
theorem dX10_init_130 : decode cX10_init 130 = .ok (.invokespecial 84, 3) := kq.at kqdX10_init_93 17 rfl
theorem dX10_init_133 : decode cX10_init 133 = .ok (.putfield 85, 3) := kq.at kqdX10_init_93 18 rfl
theorem dX10_init_136 : decode cX10_init 136 = .ok (.aload_n 0, 1) := kq.at kqdX10_init_93 19 rfl
theorem dX10_init_137 : decode cX10_init 137 = .ok (.new 89, 3) := kq.at kqdX10_init_93 20 rfl
theorem dX10_init_140 : decode cX10_init 140 = .ok (.dup, 1) := kq.at kqdX10_init_93 21 rfl
theorem dX10_init_141 : decode cX10_init 141 = .ok (.invokespecial 91, 3) := kq.at kqdX10_init_93 22 rfl
theorem dX10_init_144 : decode cX10_init 144 = .ok (.putfield 92, 3) := kq.at kqdX10_init_93 23 rfl
theorem kqdX10_init_147 : kq cX10_init [(147, .aload_n 0, 1), (148, .new 96, 3), (151, .dup, 1), (152, .invokespecial 98, 3), (155, .putfield 99, 3), (158, .aload_n 0, 1), (159, .iconst 3, 1), (160, .anewarray 103, 3), (163, .putfield 105, 3), (166, .aload_n 0, 1), (167, .iconst 0, 1), (168, .putfield 109, 3), (171, .iconst 0, 1), (172, .istore_n 1, 1), (173, .iload_n 1, 1), (174, .iconst 3, 1), (175, .if_icmp .ge 22, 3), (178, .aload_n 0, 1), (179, .getfield 105, 3), (182, .iload_n 1, 1), (183, .new 103, 3), (186, .dup, 1), (187, .invokespecial 112, 3), (190, .aastore, 1)] = true := by decide +kernel
theorem dX10_init_147 : decode cX10_init 147 = .ok (.aload_n 0, 1) := kq.at kqdX10_init_147 0 rfl
theorem dX10_init_148 : decode cX10_init 148 = .ok (.new 96, 3) := kq.at kqdX10_init_147 1 rfl
theorem dX10_init_151 : decode cX10_init 151 = .ok (.dup, 1) := kq.at kqdX10_init_147 2 rfl
theorem dX10_init_152 : decode cX10_init 152 = .ok (.invokespecial 98, 3) := kq.at kqdX10_init_147 3 rfl
theorem dX10_init_155 : decode cX10_init 155 = .ok (.putfield 99, 3) := kq.at kqdX10_init_147 4 rfl
theorem dX10_init_158 : decode cX10_init 158 = .ok (.aload_n 0, 1) := kq.at kqdX10_init_147 5 rfl
theorem dX10_init_159 : decode cX10_init 159 = .ok (.iconst 3, 1) := kq.at kqdX10_init_147 6 rfl
theorem dX10_init_160 : decode cX10_init 160 = .ok (.anewarray 103, 3) := kq.at kqdX10_init_147 7 rfl
theorem dX10_init_163 : decode cX10_init 163 = .ok (.putfield 105, 3) := kq.at kqdX10_init_147 8 rfl
theorem dX10_init_166 : decode cX10_init 166 = .ok (.aload_n 0, 1) := kq.at kqdX10_init_147 9 rfl
theorem dX10_init_167 : decode cX10_init 167 = .ok (.iconst 0, 1) := kq.at kqdX10_init_147 10 rfl
theorem dX10_init_168 : decode cX10_init 168 = .ok (.putfield 109, 3) := kq.at kqdX10_init_147 11 rfl
theorem dX10_init_171 : decode cX10_init 171 = .ok (.iconst 0, 1) := kq.at kqdX10_init_147 12 rfl
theorem dX10_init_172 : decode cX10_init 172 = .ok (.istore_n 1, 1) := kq.at kqdX10_init_147 13 rfl
theorem dX10_init_173 : decode cX10_init 173 = .ok (.iload_n 1, 1) := kq.at kqdX10_init_147 14 rfl
theorem dX10_init_174 : decode cX10_init 174 = .ok (.iconst 3, 1) := kq.at kqdX10_init_147 15 rfl
theorem dX10_init_175 : decode cX10_init 175 = .ok (.if_icmp .ge 22, 3) := kq.at kqdX10_init_147 16 rfl
theorem dX10_init_178 : decode cX10_init 178 = .ok (.aload_n 0, 1) := kq.at kqdX10_init_147 17 rfl
theorem dX10_init_179 : decode cX10_init 179 = .ok (.getfield 105, 3) := kq.at kqdX10_init_147 18 rfl
theorem dX10_init_182 : decode cX10_init 182 = .ok (.iload_n 1, 1) := kq.at kqdX10_init_147 19 rfl
theorem dX10_init_183 : decode cX10_init 183 = .ok (.new 103, 3) := kq.at kqdX10_init_147 20 rfl
theorem dX10_init_186 : decode cX10_init 186 = .ok (.dup, 1) := kq.at kqdX10_init_147 21 rfl
theorem dX10_init_187 : decode cX10_init 187 = .ok (.invokespecial 112, 3) := kq.at kqdX10_init_147 22 rfl
theorem dX10_init_190 : decode cX10_init 190 = .ok (.aastore, 1) := kq.at kqdX10_init_147 23 rfl
theorem kqdX10_init_191 : kq cX10_init [(191, .iinc 1 1, 3), (194, .goto (-21), 3), (197, .return_, 1)] = true := by decide +kernel
theorem dX10_init_191 : decode cX10_init 191 = .ok (.iinc 1 1, 3) := kq.at kqdX10_init_191 0 rfl
theorem dX10_init_194 : decode cX10_init 194 = .ok (.goto (-21), 3) := kq.at kqdX10_init_191 1 rfl
theorem dX10_init_197 : decode cX10_init 197 = .ok (.return_, 1) := kq.at kqdX10_init_191 2 rfl
theorem kqdX10_answer_0 : kq cX10_answer [(0, .aload_n 0, 1), (1, .iconst 0, 1), (2, .putfield 17, 3), (5, .iload_n 1, 1), (6, .ireturn, 1)] = true := by decide +kernel
theorem dX10_answer_0 : decode cX10_answer 0 = .ok (.aload_n 0, 1) := kq.at kqdX10_answer_0 0 rfl
theorem dX10_answer_1 : decode cX10_answer 1 = .ok (.iconst 0, 1) := kq.at kqdX10_answer_0 1 rfl
theorem dX10_answer_2 : decode cX10_answer 2 = .ok (.putfield 17, 3) := kq.at kqdX10_answer_0 2 rfl
theorem dX10_answer_5 : decode cX10_answer 5 = .ok (.iload_n 1, 1) := kq.at kqdX10_answer_0 3 rfl
theorem dX10_answer_6 : decode cX10_answer 6 = .ok (.ireturn, 1) := kq.at kqdX10_answer_0 4 rfl
theorem kqdX10_refuse_0 : kq cX10_refuse [(0, .aload_n 0, 1), (1, .iload_n 1, 1), (2, .putfield 17, 3), (5, .iconst (-1), 1), (6, .ireturn, 1)] = true := by decide +kernel
theorem dX10_refuse_0 : decode cX10_refuse 0 = .ok (.aload_n 0, 1) := kq.at kqdX10_refuse_0 0 rfl
theorem dX10_refuse_1 : decode cX10_refuse 1 = .ok (.iload_n 1, 1) := kq.at kqdX10_refuse_0 1 rfl
theorem dX10_refuse_2 : decode cX10_refuse 2 = .ok (.putfield 17, 3) := kq.at kqdX10_refuse_0 2 rfl
theorem dX10_refuse_5 : decode cX10_refuse 5 = .ok (.iconst (-1), 1) := kq.at kqdX10_refuse_0 3 rfl
theorem dX10_refuse_6 : decode cX10_refuse 6 = .ok (.ireturn, 1) := kq.at kqdX10_refuse_0 4 rfl
theorem kqdX10_did_0 : kq cX10_did [(0, .aload_n 0, 1), (1, .iconst 0, 1), (2, .putfield 17, 3), (5, .iconst 1, 1), (6, .ireturn, 1)] = true := by decide +kernel
theorem dX10_did_0 : decode cX10_did 0 = .ok (.aload_n 0, 1) := kq.at kqdX10_did_0 0 rfl
theorem dX10_did_1 : decode cX10_did 1 = .ok (.iconst 0, 1) := kq.at kqdX10_did_0 1 rfl
theorem dX10_did_2 : decode cX10_did 2 = .ok (.putfield 17, 3) := kq.at kqdX10_did_0 2 rfl
theorem dX10_did_5 : decode cX10_did 5 = .ok (.iconst 1, 1) := kq.at kqdX10_did_0 3 rfl
theorem dX10_did_6 : decode cX10_did 6 = .ok (.ireturn, 1) := kq.at kqdX10_did_0 4 rfl
theorem kqdX10_didNot_0 : kq cX10_didNot [(0, .aload_n 0, 1), (1, .iload_n 1, 1), (2, .putfield 17, 3), (5, .iconst 0, 1), (6, .ireturn, 1)] = true := by decide +kernel
theorem dX10_didNot_0 : decode cX10_didNot 0 = .ok (.aload_n 0, 1) := kq.at kqdX10_didNot_0 0 rfl
theorem dX10_didNot_1 : decode cX10_didNot 1 = .ok (.iload_n 1, 1) := kq.at kqdX10_didNot_0 1 rfl
theorem dX10_didNot_2 : decode cX10_didNot 2 = .ok (.putfield 17, 3) := kq.at kqdX10_didNot_0 2 rfl
theorem dX10_didNot_5 : decode cX10_didNot 5 = .ok (.iconst 0, 1) := kq.at kqdX10_didNot_0 3 rfl
theorem dX10_didNot_6 : decode cX10_didNot 6 = .ok (.ireturn, 1) := kq.at kqdX10_didNot_0 4 rfl
theorem kqdX10_answerOr_0 : kq cX10_answerOr [(0, .iload_n 1, 1), (1, .ifCond .eq 11, 3), (4, .aload_n 0, 1), (5, .iload_n 2, 1), (6, .invokevirtual 113, 3), (9, .goto 8, 3), (12, .aload_n 0, 1), (13, .iload_n 3, 1), (14, .invokevirtual 117, 3), (17, .ireturn, 1)] = true := by decide +kernel
theorem dX10_answerOr_0 : decode cX10_answerOr 0 = .ok (.iload_n 1, 1) := kq.at kqdX10_answerOr_0 0 rfl
theorem dX10_answerOr_1 : decode cX10_answerOr 1 = .ok (.ifCond .eq 11, 3) := kq.at kqdX10_answerOr_0 1 rfl
theorem dX10_answerOr_4 : decode cX10_answerOr 4 = .ok (.aload_n 0, 1) := kq.at kqdX10_answerOr_0 2 rfl
theorem dX10_answerOr_5 : decode cX10_answerOr 5 = .ok (.iload_n 2, 1) := kq.at kqdX10_answerOr_0 3 rfl
theorem dX10_answerOr_6 : decode cX10_answerOr 6 = .ok (.invokevirtual 113, 3) := kq.at kqdX10_answerOr_0 4 rfl
theorem dX10_answerOr_9 : decode cX10_answerOr 9 = .ok (.goto 8, 3) := kq.at kqdX10_answerOr_0 5 rfl
theorem dX10_answerOr_12 : decode cX10_answerOr 12 = .ok (.aload_n 0, 1) := kq.at kqdX10_answerOr_0 6 rfl
theorem dX10_answerOr_13 : decode cX10_answerOr 13 = .ok (.iload_n 3, 1) := kq.at kqdX10_answerOr_0 7 rfl
theorem dX10_answerOr_14 : decode cX10_answerOr 14 = .ok (.invokevirtual 117, 3) := kq.at kqdX10_answerOr_0 8 rfl
theorem dX10_answerOr_17 : decode cX10_answerOr 17 = .ok (.ireturn, 1) := kq.at kqdX10_answerOr_0 9 rfl
theorem kqdX10_status_0 : kq cX10_status [(0, .aload_n 0, 1), (1, .getfield 17, 3), (4, .ireturn, 1)] = true := by decide +kernel
theorem dX10_status_0 : decode cX10_status 0 = .ok (.aload_n 0, 1) := kq.at kqdX10_status_0 0 rfl
theorem dX10_status_1 : decode cX10_status 1 = .ok (.getfield 17, 3) := kq.at kqdX10_status_0 1 rfl
theorem dX10_status_4 : decode cX10_status 4 = .ok (.ireturn, 1) := kq.at kqdX10_status_0 2 rfl
theorem kqdX10_top_0 : kq cX10_top [(0, .aload_n 0, 1), (1, .getfield 26, 3), (4, .lreturn, 1)] = true := by decide +kernel
theorem dX10_top_0 : decode cX10_top 0 = .ok (.aload_n 0, 1) := kq.at kqdX10_top_0 0 rfl
theorem dX10_top_1 : decode cX10_top 1 = .ok (.getfield 26, 3) := kq.at kqdX10_top_0 1 rfl
theorem dX10_top_4 : decode cX10_top 4 = .ok (.lreturn, 1) := kq.at kqdX10_top_0 2 rfl
theorem kqdX10_bottom_0 : kq cX10_bottom [(0, .aload_n 0, 1), (1, .getfield 30, 3), (4, .lreturn, 1)] = true := by decide +kernel
theorem dX10_bottom_0 : decode cX10_bottom 0 = .ok (.aload_n 0, 1) := kq.at kqdX10_bottom_0 0 rfl
theorem dX10_bottom_1 : decode cX10_bottom 1 = .ok (.getfield 30, 3) := kq.at kqdX10_bottom_0 1 rfl
theorem dX10_bottom_4 : decode cX10_bottom 4 = .ok (.lreturn, 1) := kq.at kqdX10_bottom_0 2 rfl
theorem kqdX10_tray_0 : kq cX10_tray [(0, .aload_n 0, 1), (1, .getfield 36, 3), (4, .iload_n 1, 1), (5, .invokevirtual 120, 3), (8, .ifCond .eq 24, 3), (11, .aload_n 0, 1), (12, .getfield 36, 3), (15, .iload_n 2, 1), (16, .invokevirtual 124, 3), (19, .ifCond .eq 13, 3), (22, .iload_n 3, 1), (23, .ifCond .lt 9, 3), (26, .iload_n 3, 1), (27, .bipush 60, 2), (29, .if_icmp .le 9, 3), (32, .aload_n 0, 1), (33, .iconst 1, 1), (34, .invokevirtual 127, 3), (37, .ireturn, 1), (38, .aload_n 0, 1), (39, .getfield 36, 3), (42, .iload_n 1, 1), (43, .iload_n 2, 1), (44, .iload_n 3, 1)] = true := by decide +kernel
theorem dX10_tray_0 : decode cX10_tray 0 = .ok (.aload_n 0, 1) := kq.at kqdX10_tray_0 0 rfl
theorem dX10_tray_1 : decode cX10_tray 1 = .ok (.getfield 36, 3) := kq.at kqdX10_tray_0 1 rfl
theorem dX10_tray_4 : decode cX10_tray 4 = .ok (.iload_n 1, 1) := kq.at kqdX10_tray_0 2 rfl
theorem dX10_tray_5 : decode cX10_tray 5 = .ok (.invokevirtual 120, 3) := kq.at kqdX10_tray_0 3 rfl
theorem dX10_tray_8 : decode cX10_tray 8 = .ok (.ifCond .eq 24, 3) := kq.at kqdX10_tray_0 4 rfl
theorem dX10_tray_11 : decode cX10_tray 11 = .ok (.aload_n 0, 1) := kq.at kqdX10_tray_0 5 rfl
theorem dX10_tray_12 : decode cX10_tray 12 = .ok (.getfield 36, 3) := kq.at kqdX10_tray_0 6 rfl
theorem dX10_tray_15 : decode cX10_tray 15 = .ok (.iload_n 2, 1) := kq.at kqdX10_tray_0 7 rfl
theorem dX10_tray_16 : decode cX10_tray 16 = .ok (.invokevirtual 124, 3) := kq.at kqdX10_tray_0 8 rfl
theorem dX10_tray_19 : decode cX10_tray 19 = .ok (.ifCond .eq 13, 3) := kq.at kqdX10_tray_0 9 rfl
theorem dX10_tray_22 : decode cX10_tray 22 = .ok (.iload_n 3, 1) := kq.at kqdX10_tray_0 10 rfl
theorem dX10_tray_23 : decode cX10_tray 23 = .ok (.ifCond .lt 9, 3) := kq.at kqdX10_tray_0 11 rfl
theorem dX10_tray_26 : decode cX10_tray 26 = .ok (.iload_n 3, 1) := kq.at kqdX10_tray_0 12 rfl
theorem dX10_tray_27 : decode cX10_tray 27 = .ok (.bipush 60, 2) := kq.at kqdX10_tray_0 13 rfl
theorem dX10_tray_29 : decode cX10_tray 29 = .ok (.if_icmp .le 9, 3) := kq.at kqdX10_tray_0 14 rfl
theorem dX10_tray_32 : decode cX10_tray 32 = .ok (.aload_n 0, 1) := kq.at kqdX10_tray_0 15 rfl
theorem dX10_tray_33 : decode cX10_tray 33 = .ok (.iconst 1, 1) := kq.at kqdX10_tray_0 16 rfl
theorem dX10_tray_34 : decode cX10_tray 34 = .ok (.invokevirtual 127, 3) := kq.at kqdX10_tray_0 17 rfl
theorem dX10_tray_37 : decode cX10_tray 37 = .ok (.ireturn, 1) := kq.at kqdX10_tray_0 18 rfl
theorem dX10_tray_38 : decode cX10_tray 38 = .ok (.aload_n 0, 1) := kq.at kqdX10_tray_0 19 rfl
theorem dX10_tray_39 : decode cX10_tray 39 = .ok (.getfield 36, 3) := kq.at kqdX10_tray_0 20 rfl
theorem dX10_tray_42 : decode cX10_tray 42 = .ok (.iload_n 1, 1) := kq.at kqdX10_tray_0 21 rfl
theorem dX10_tray_43 : decode cX10_tray 43 = .ok (.iload_n 2, 1) := kq.at kqdX10_tray_0 22 rfl
theorem dX10_tray_44 : decode cX10_tray 44 = .ok (.iload_n 3, 1) := kq.at kqdX10_tray_0 23 rfl
theorem kqdX10_tray_45 : kq cX10_tray [(45, .invokevirtual 130, 3), (48, .aload_n 0, 1), (49, .invokevirtual 134, 3), (52, .ireturn, 1)] = true := by decide +kernel
theorem dX10_tray_45 : decode cX10_tray 45 = .ok (.invokevirtual 130, 3) := kq.at kqdX10_tray_45 0 rfl
theorem dX10_tray_48 : decode cX10_tray 48 = .ok (.aload_n 0, 1) := kq.at kqdX10_tray_45 1 rfl
theorem dX10_tray_49 : decode cX10_tray 49 = .ok (.invokevirtual 134, 3) := kq.at kqdX10_tray_45 2 rfl
theorem dX10_tray_52 : decode cX10_tray 52 = .ok (.ireturn, 1) := kq.at kqdX10_tray_45 3 rfl
theorem kqdX10_write_0 : kq cX10_write [(0, .aload_n 0, 1), (1, .getfield 36, 3), (4, .iload_n 1, 1), (5, .iload_n 2, 1), (6, .invokevirtual 138, 3), (9, .istore 5, 2), (11, .iload 5, 2), (13, .ifCond .eq 10, 3), (16, .aload_n 0, 1), (17, .iload 5, 2), (19, .invokevirtual 127, 3), (22, .ireturn, 1), (23, .aload_n 0, 1), (24, .getfield 36, 3), (27, .iload_n 1, 1), (28, .iload_n 2, 1), (29, .lload_n 3, 1), (30, .invokevirtual 142, 3), (33, .aload_n 0, 1), (34, .invokevirtual 134, 3), (37, .ireturn, 1)] = true := by decide +kernel
theorem dX10_write_0 : decode cX10_write 0 = .ok (.aload_n 0, 1) := kq.at kqdX10_write_0 0 rfl
theorem dX10_write_1 : decode cX10_write 1 = .ok (.getfield 36, 3) := kq.at kqdX10_write_0 1 rfl
theorem dX10_write_4 : decode cX10_write 4 = .ok (.iload_n 1, 1) := kq.at kqdX10_write_0 2 rfl
theorem dX10_write_5 : decode cX10_write 5 = .ok (.iload_n 2, 1) := kq.at kqdX10_write_0 3 rfl
theorem dX10_write_6 : decode cX10_write 6 = .ok (.invokevirtual 138, 3) := kq.at kqdX10_write_0 4 rfl
theorem dX10_write_9 : decode cX10_write 9 = .ok (.istore 5, 2) := kq.at kqdX10_write_0 5 rfl
theorem dX10_write_11 : decode cX10_write 11 = .ok (.iload 5, 2) := kq.at kqdX10_write_0 6 rfl
theorem dX10_write_13 : decode cX10_write 13 = .ok (.ifCond .eq 10, 3) := kq.at kqdX10_write_0 7 rfl
theorem dX10_write_16 : decode cX10_write 16 = .ok (.aload_n 0, 1) := kq.at kqdX10_write_0 8 rfl
theorem dX10_write_17 : decode cX10_write 17 = .ok (.iload 5, 2) := kq.at kqdX10_write_0 9 rfl
theorem dX10_write_19 : decode cX10_write 19 = .ok (.invokevirtual 127, 3) := kq.at kqdX10_write_0 10 rfl
theorem dX10_write_22 : decode cX10_write 22 = .ok (.ireturn, 1) := kq.at kqdX10_write_0 11 rfl
theorem dX10_write_23 : decode cX10_write 23 = .ok (.aload_n 0, 1) := kq.at kqdX10_write_0 12 rfl
theorem dX10_write_24 : decode cX10_write 24 = .ok (.getfield 36, 3) := kq.at kqdX10_write_0 13 rfl
theorem dX10_write_27 : decode cX10_write 27 = .ok (.iload_n 1, 1) := kq.at kqdX10_write_0 14 rfl
theorem dX10_write_28 : decode cX10_write 28 = .ok (.iload_n 2, 1) := kq.at kqdX10_write_0 15 rfl
theorem dX10_write_29 : decode cX10_write 29 = .ok (.lload_n 3, 1) := kq.at kqdX10_write_0 16 rfl
theorem dX10_write_30 : decode cX10_write 30 = .ok (.invokevirtual 142, 3) := kq.at kqdX10_write_0 17 rfl
theorem dX10_write_33 : decode cX10_write 33 = .ok (.aload_n 0, 1) := kq.at kqdX10_write_0 18 rfl
theorem dX10_write_34 : decode cX10_write 34 = .ok (.invokevirtual 134, 3) := kq.at kqdX10_write_0 19 rfl
theorem dX10_write_37 : decode cX10_write 37 = .ok (.ireturn, 1) := kq.at kqdX10_write_0 20 rfl
theorem kqdX10_read_0 : kq cX10_read [(0, .aload_n 0, 1), (1, .getfield 36, 3), (4, .iload_n 1, 1), (5, .iload_n 2, 1), (6, .invokevirtual 138, 3), (9, .istore_n 3, 1), (10, .iload_n 3, 1), (11, .ifCond .eq 10, 3), (14, .aload_n 0, 1), (15, .iload_n 3, 1), (16, .invokevirtual 117, 3), (19, .i2l, 1), (20, .lreturn, 1), (21, .aload_n 0, 1), (22, .iconst 0, 1), (23, .putfield 17, 3), (26, .aload_n 0, 1), (27, .getfield 36, 3), (30, .iload_n 1, 1), (31, .iload_n 2, 1), (32, .invokevirtual 146, 3), (35, .lreturn, 1)] = true := by decide +kernel
theorem dX10_read_0 : decode cX10_read 0 = .ok (.aload_n 0, 1) := kq.at kqdX10_read_0 0 rfl
theorem dX10_read_1 : decode cX10_read 1 = .ok (.getfield 36, 3) := kq.at kqdX10_read_0 1 rfl
theorem dX10_read_4 : decode cX10_read 4 = .ok (.iload_n 1, 1) := kq.at kqdX10_read_0 2 rfl
theorem dX10_read_5 : decode cX10_read 5 = .ok (.iload_n 2, 1) := kq.at kqdX10_read_0 3 rfl
theorem dX10_read_6 : decode cX10_read 6 = .ok (.invokevirtual 138, 3) := kq.at kqdX10_read_0 4 rfl
theorem dX10_read_9 : decode cX10_read 9 = .ok (.istore_n 3, 1) := kq.at kqdX10_read_0 5 rfl
theorem dX10_read_10 : decode cX10_read 10 = .ok (.iload_n 3, 1) := kq.at kqdX10_read_0 6 rfl
theorem dX10_read_11 : decode cX10_read 11 = .ok (.ifCond .eq 10, 3) := kq.at kqdX10_read_0 7 rfl
theorem dX10_read_14 : decode cX10_read 14 = .ok (.aload_n 0, 1) := kq.at kqdX10_read_0 8 rfl
theorem dX10_read_15 : decode cX10_read 15 = .ok (.iload_n 3, 1) := kq.at kqdX10_read_0 9 rfl
theorem dX10_read_16 : decode cX10_read 16 = .ok (.invokevirtual 117, 3) := kq.at kqdX10_read_0 10 rfl
theorem dX10_read_19 : decode cX10_read 19 = .ok (.i2l, 1) := kq.at kqdX10_read_0 11 rfl
theorem dX10_read_20 : decode cX10_read 20 = .ok (.lreturn, 1) := kq.at kqdX10_read_0 12 rfl
theorem dX10_read_21 : decode cX10_read 21 = .ok (.aload_n 0, 1) := kq.at kqdX10_read_0 13 rfl
theorem dX10_read_22 : decode cX10_read 22 = .ok (.iconst 0, 1) := kq.at kqdX10_read_0 14 rfl
theorem dX10_read_23 : decode cX10_read 23 = .ok (.putfield 17, 3) := kq.at kqdX10_read_0 15 rfl
theorem dX10_read_26 : decode cX10_read 26 = .ok (.aload_n 0, 1) := kq.at kqdX10_read_0 16 rfl
theorem dX10_read_27 : decode cX10_read 27 = .ok (.getfield 36, 3) := kq.at kqdX10_read_0 17 rfl
theorem dX10_read_30 : decode cX10_read 30 = .ok (.iload_n 1, 1) := kq.at kqdX10_read_0 18 rfl
theorem dX10_read_31 : decode cX10_read 31 = .ok (.iload_n 2, 1) := kq.at kqdX10_read_0 19 rfl
theorem dX10_read_32 : decode cX10_read 32 = .ok (.invokevirtual 146, 3) := kq.at kqdX10_read_0 20 rfl
theorem dX10_read_35 : decode cX10_read 35 = .ok (.lreturn, 1) := kq.at kqdX10_read_0 21 rfl
theorem kqdX10_pour_0 : kq cX10_pour [(0, .aload_n 0, 1), (1, .getfield 36, 3), (4, .iload_n 1, 1), (5, .invokevirtual 120, 3), (8, .ifCond .eq 28, 3), (11, .aload_n 0, 1), (12, .getfield 36, 3), (15, .iload_n 3, 1), (16, .invokevirtual 120, 3), (19, .ifCond .eq 17, 3), (22, .iload_n 2, 1), (23, .ifCond .lt 13, 3), (26, .iload 4, 2), (28, .ifCond .lt 8, 3), (31, .iload 5, 2), (33, .ifCond .ge 9, 3), (36, .aload_n 0, 1), (37, .iconst 1, 1), (38, .invokevirtual 127, 3), (41, .ireturn, 1), (42, .aload_n 0, 1), (43, .getfield 36, 3), (46, .iload_n 1, 1), (47, .invokevirtual 150, 3)] = true := by decide +kernel
theorem dX10_pour_0 : decode cX10_pour 0 = .ok (.aload_n 0, 1) := kq.at kqdX10_pour_0 0 rfl
theorem dX10_pour_1 : decode cX10_pour 1 = .ok (.getfield 36, 3) := kq.at kqdX10_pour_0 1 rfl
theorem dX10_pour_4 : decode cX10_pour 4 = .ok (.iload_n 1, 1) := kq.at kqdX10_pour_0 2 rfl
theorem dX10_pour_5 : decode cX10_pour 5 = .ok (.invokevirtual 120, 3) := kq.at kqdX10_pour_0 3 rfl
theorem dX10_pour_8 : decode cX10_pour 8 = .ok (.ifCond .eq 28, 3) := kq.at kqdX10_pour_0 4 rfl
theorem dX10_pour_11 : decode cX10_pour 11 = .ok (.aload_n 0, 1) := kq.at kqdX10_pour_0 5 rfl
theorem dX10_pour_12 : decode cX10_pour 12 = .ok (.getfield 36, 3) := kq.at kqdX10_pour_0 6 rfl
theorem dX10_pour_15 : decode cX10_pour 15 = .ok (.iload_n 3, 1) := kq.at kqdX10_pour_0 7 rfl
theorem dX10_pour_16 : decode cX10_pour 16 = .ok (.invokevirtual 120, 3) := kq.at kqdX10_pour_0 8 rfl
theorem dX10_pour_19 : decode cX10_pour 19 = .ok (.ifCond .eq 17, 3) := kq.at kqdX10_pour_0 9 rfl
theorem dX10_pour_22 : decode cX10_pour 22 = .ok (.iload_n 2, 1) := kq.at kqdX10_pour_0 10 rfl
theorem dX10_pour_23 : decode cX10_pour 23 = .ok (.ifCond .lt 13, 3) := kq.at kqdX10_pour_0 11 rfl
theorem dX10_pour_26 : decode cX10_pour 26 = .ok (.iload 4, 2) := kq.at kqdX10_pour_0 12 rfl
theorem dX10_pour_28 : decode cX10_pour 28 = .ok (.ifCond .lt 8, 3) := kq.at kqdX10_pour_0 13 rfl
theorem dX10_pour_31 : decode cX10_pour 31 = .ok (.iload 5, 2) := kq.at kqdX10_pour_0 14 rfl
theorem dX10_pour_33 : decode cX10_pour 33 = .ok (.ifCond .ge 9, 3) := kq.at kqdX10_pour_0 15 rfl
theorem dX10_pour_36 : decode cX10_pour 36 = .ok (.aload_n 0, 1) := kq.at kqdX10_pour_0 16 rfl
theorem dX10_pour_37 : decode cX10_pour 37 = .ok (.iconst 1, 1) := kq.at kqdX10_pour_0 17 rfl
theorem dX10_pour_38 : decode cX10_pour 38 = .ok (.invokevirtual 127, 3) := kq.at kqdX10_pour_0 18 rfl
theorem dX10_pour_41 : decode cX10_pour 41 = .ok (.ireturn, 1) := kq.at kqdX10_pour_0 19 rfl
theorem dX10_pour_42 : decode cX10_pour 42 = .ok (.aload_n 0, 1) := kq.at kqdX10_pour_0 20 rfl
theorem dX10_pour_43 : decode cX10_pour 43 = .ok (.getfield 36, 3) := kq.at kqdX10_pour_0 21 rfl
theorem dX10_pour_46 : decode cX10_pour 46 = .ok (.iload_n 1, 1) := kq.at kqdX10_pour_0 22 rfl
theorem dX10_pour_47 : decode cX10_pour 47 = .ok (.invokevirtual 150, 3) := kq.at kqdX10_pour_0 23 rfl
theorem kqdX10_pour_50 : kq cX10_pour [(50, .ifCond .ne 14, 3), (53, .aload_n 0, 1), (54, .getfield 36, 3), (57, .iload_n 3, 1), (58, .invokevirtual 150, 3), (61, .ifCond .eq 9, 3), (64, .aload_n 0, 1), (65, .iconst 2, 1), (66, .invokevirtual 127, 3), (69, .ireturn, 1), (70, .aload_n 0, 1), (71, .getfield 36, 3), (74, .iload_n 1, 1), (75, .invokevirtual 153, 3), (78, .aload_n 0, 1), (79, .getfield 36, 3), (82, .iload_n 3, 1), (83, .invokevirtual 153, 3), (86, .if_icmp .eq 10, 3), (89, .aload_n 0, 1), (90, .bipush 8, 2), (92, .invokevirtual 127, 3), (95, .ireturn, 1), (96, .aload_n 0, 1)] = true := by decide +kernel
theorem dX10_pour_50 : decode cX10_pour 50 = .ok (.ifCond .ne 14, 3) := kq.at kqdX10_pour_50 0 rfl
theorem dX10_pour_53 : decode cX10_pour 53 = .ok (.aload_n 0, 1) := kq.at kqdX10_pour_50 1 rfl
theorem dX10_pour_54 : decode cX10_pour 54 = .ok (.getfield 36, 3) := kq.at kqdX10_pour_50 2 rfl
theorem dX10_pour_57 : decode cX10_pour 57 = .ok (.iload_n 3, 1) := kq.at kqdX10_pour_50 3 rfl
theorem dX10_pour_58 : decode cX10_pour 58 = .ok (.invokevirtual 150, 3) := kq.at kqdX10_pour_50 4 rfl
theorem dX10_pour_61 : decode cX10_pour 61 = .ok (.ifCond .eq 9, 3) := kq.at kqdX10_pour_50 5 rfl
theorem dX10_pour_64 : decode cX10_pour 64 = .ok (.aload_n 0, 1) := kq.at kqdX10_pour_50 6 rfl
theorem dX10_pour_65 : decode cX10_pour 65 = .ok (.iconst 2, 1) := kq.at kqdX10_pour_50 7 rfl
theorem dX10_pour_66 : decode cX10_pour 66 = .ok (.invokevirtual 127, 3) := kq.at kqdX10_pour_50 8 rfl
theorem dX10_pour_69 : decode cX10_pour 69 = .ok (.ireturn, 1) := kq.at kqdX10_pour_50 9 rfl
theorem dX10_pour_70 : decode cX10_pour 70 = .ok (.aload_n 0, 1) := kq.at kqdX10_pour_50 10 rfl
theorem dX10_pour_71 : decode cX10_pour 71 = .ok (.getfield 36, 3) := kq.at kqdX10_pour_50 11 rfl
theorem dX10_pour_74 : decode cX10_pour 74 = .ok (.iload_n 1, 1) := kq.at kqdX10_pour_50 12 rfl
theorem dX10_pour_75 : decode cX10_pour 75 = .ok (.invokevirtual 153, 3) := kq.at kqdX10_pour_50 13 rfl
theorem dX10_pour_78 : decode cX10_pour 78 = .ok (.aload_n 0, 1) := kq.at kqdX10_pour_50 14 rfl
theorem dX10_pour_79 : decode cX10_pour 79 = .ok (.getfield 36, 3) := kq.at kqdX10_pour_50 15 rfl
theorem dX10_pour_82 : decode cX10_pour 82 = .ok (.iload_n 3, 1) := kq.at kqdX10_pour_50 16 rfl
theorem dX10_pour_83 : decode cX10_pour 83 = .ok (.invokevirtual 153, 3) := kq.at kqdX10_pour_50 17 rfl
theorem dX10_pour_86 : decode cX10_pour 86 = .ok (.if_icmp .eq 10, 3) := kq.at kqdX10_pour_50 18 rfl
theorem dX10_pour_89 : decode cX10_pour 89 = .ok (.aload_n 0, 1) := kq.at kqdX10_pour_50 19 rfl
theorem dX10_pour_90 : decode cX10_pour 90 = .ok (.bipush 8, 2) := kq.at kqdX10_pour_50 20 rfl
theorem dX10_pour_92 : decode cX10_pour 92 = .ok (.invokevirtual 127, 3) := kq.at kqdX10_pour_50 21 rfl
theorem dX10_pour_95 : decode cX10_pour 95 = .ok (.ireturn, 1) := kq.at kqdX10_pour_50 22 rfl
theorem dX10_pour_96 : decode cX10_pour 96 = .ok (.aload_n 0, 1) := kq.at kqdX10_pour_50 23 rfl
theorem kqdX10_pour_97 : kq cX10_pour [(97, .getfield 36, 3), (100, .iload_n 1, 1), (101, .iload_n 2, 1), (102, .iload 5, 2), (104, .invokevirtual 156, 3), (107, .ifCond .eq 18, 3), (110, .aload_n 0, 1), (111, .getfield 36, 3), (114, .iload_n 3, 1), (115, .iload 4, 2), (117, .iload 5, 2), (119, .invokevirtual 156, 3), (122, .ifCond .ne 9, 3), (125, .aload_n 0, 1), (126, .iconst 3, 1), (127, .invokevirtual 127, 3), (130, .ireturn, 1), (131, .aload_n 0, 1), (132, .getfield 36, 3), (135, .iload_n 1, 1), (136, .iload_n 2, 1), (137, .iload_n 3, 1), (138, .iload 4, 2), (140, .iload 5, 2)] = true := by decide +kernel
theorem dX10_pour_97 : decode cX10_pour 97 = .ok (.getfield 36, 3) := kq.at kqdX10_pour_97 0 rfl
theorem dX10_pour_100 : decode cX10_pour 100 = .ok (.iload_n 1, 1) := kq.at kqdX10_pour_97 1 rfl
theorem dX10_pour_101 : decode cX10_pour 101 = .ok (.iload_n 2, 1) := kq.at kqdX10_pour_97 2 rfl
theorem dX10_pour_102 : decode cX10_pour 102 = .ok (.iload 5, 2) := kq.at kqdX10_pour_97 3 rfl
theorem dX10_pour_104 : decode cX10_pour 104 = .ok (.invokevirtual 156, 3) := kq.at kqdX10_pour_97 4 rfl
theorem dX10_pour_107 : decode cX10_pour 107 = .ok (.ifCond .eq 18, 3) := kq.at kqdX10_pour_97 5 rfl
theorem dX10_pour_110 : decode cX10_pour 110 = .ok (.aload_n 0, 1) := kq.at kqdX10_pour_97 6 rfl
theorem dX10_pour_111 : decode cX10_pour 111 = .ok (.getfield 36, 3) := kq.at kqdX10_pour_97 7 rfl
theorem dX10_pour_114 : decode cX10_pour 114 = .ok (.iload_n 3, 1) := kq.at kqdX10_pour_97 8 rfl
theorem dX10_pour_115 : decode cX10_pour 115 = .ok (.iload 4, 2) := kq.at kqdX10_pour_97 9 rfl
theorem dX10_pour_117 : decode cX10_pour 117 = .ok (.iload 5, 2) := kq.at kqdX10_pour_97 10 rfl
theorem dX10_pour_119 : decode cX10_pour 119 = .ok (.invokevirtual 156, 3) := kq.at kqdX10_pour_97 11 rfl
theorem dX10_pour_122 : decode cX10_pour 122 = .ok (.ifCond .ne 9, 3) := kq.at kqdX10_pour_97 12 rfl
theorem dX10_pour_125 : decode cX10_pour 125 = .ok (.aload_n 0, 1) := kq.at kqdX10_pour_97 13 rfl
theorem dX10_pour_126 : decode cX10_pour 126 = .ok (.iconst 3, 1) := kq.at kqdX10_pour_97 14 rfl
theorem dX10_pour_127 : decode cX10_pour 127 = .ok (.invokevirtual 127, 3) := kq.at kqdX10_pour_97 15 rfl
theorem dX10_pour_130 : decode cX10_pour 130 = .ok (.ireturn, 1) := kq.at kqdX10_pour_97 16 rfl
theorem dX10_pour_131 : decode cX10_pour 131 = .ok (.aload_n 0, 1) := kq.at kqdX10_pour_97 17 rfl
theorem dX10_pour_132 : decode cX10_pour 132 = .ok (.getfield 36, 3) := kq.at kqdX10_pour_97 18 rfl
theorem dX10_pour_135 : decode cX10_pour 135 = .ok (.iload_n 1, 1) := kq.at kqdX10_pour_97 19 rfl
theorem dX10_pour_136 : decode cX10_pour 136 = .ok (.iload_n 2, 1) := kq.at kqdX10_pour_97 20 rfl
theorem dX10_pour_137 : decode cX10_pour 137 = .ok (.iload_n 3, 1) := kq.at kqdX10_pour_97 21 rfl
theorem dX10_pour_138 : decode cX10_pour 138 = .ok (.iload 4, 2) := kq.at kqdX10_pour_97 22 rfl
theorem dX10_pour_140 : decode cX10_pour 140 = .ok (.iload 5, 2) := kq.at kqdX10_pour_97 23 rfl
theorem kqdX10_pour_142 : kq cX10_pour [(142, .invokevirtual 160, 3), (145, .aload_n 0, 1), (146, .invokevirtual 134, 3), (149, .ireturn, 1)] = true := by decide +kernel
theorem dX10_pour_142 : decode cX10_pour 142 = .ok (.invokevirtual 160, 3) := kq.at kqdX10_pour_142 0 rfl
theorem dX10_pour_145 : decode cX10_pour 145 = .ok (.aload_n 0, 1) := kq.at kqdX10_pour_142 1 rfl
theorem dX10_pour_146 : decode cX10_pour 146 = .ok (.invokevirtual 134, 3) := kq.at kqdX10_pour_142 2 rfl
theorem dX10_pour_149 : decode cX10_pour 149 = .ok (.ireturn, 1) := kq.at kqdX10_pour_142 3 rfl
theorem kqdX10_feed_0 : kq cX10_feed [(0, .aload_n 0, 1), (1, .getfield 13, 3), (4, .bipush 20, 2), (6, .iadd, 1), (7, .sipush 900, 3), (10, .if_icmp .le 5, 3), (13, .iconst (-1), 1), (14, .ireturn, 1), (15, .aload_n 0, 1), (16, .iload_n 1, 1), (17, .invokevirtual 164, 3), (20, .aload_n 0, 1), (21, .iload_n 2, 1), (22, .invokevirtual 164, 3), (25, .aload_n 0, 1), (26, .iload_n 3, 1), (27, .invokevirtual 164, 3), (30, .aload_n 0, 1), (31, .iload 4, 2), (33, .invokevirtual 164, 3), (36, .aload_n 0, 1), (37, .iload 5, 2), (39, .invokevirtual 164, 3), (42, .aload_n 0, 1)] = true := by decide +kernel
theorem dX10_feed_0 : decode cX10_feed 0 = .ok (.aload_n 0, 1) := kq.at kqdX10_feed_0 0 rfl
theorem dX10_feed_1 : decode cX10_feed 1 = .ok (.getfield 13, 3) := kq.at kqdX10_feed_0 1 rfl
theorem dX10_feed_4 : decode cX10_feed 4 = .ok (.bipush 20, 2) := kq.at kqdX10_feed_0 2 rfl
theorem dX10_feed_6 : decode cX10_feed 6 = .ok (.iadd, 1) := kq.at kqdX10_feed_0 3 rfl
theorem dX10_feed_7 : decode cX10_feed 7 = .ok (.sipush 900, 3) := kq.at kqdX10_feed_0 4 rfl
theorem dX10_feed_10 : decode cX10_feed 10 = .ok (.if_icmp .le 5, 3) := kq.at kqdX10_feed_0 5 rfl
theorem dX10_feed_13 : decode cX10_feed 13 = .ok (.iconst (-1), 1) := kq.at kqdX10_feed_0 6 rfl
theorem dX10_feed_14 : decode cX10_feed 14 = .ok (.ireturn, 1) := kq.at kqdX10_feed_0 7 rfl
theorem dX10_feed_15 : decode cX10_feed 15 = .ok (.aload_n 0, 1) := kq.at kqdX10_feed_0 8 rfl
theorem dX10_feed_16 : decode cX10_feed 16 = .ok (.iload_n 1, 1) := kq.at kqdX10_feed_0 9 rfl
theorem dX10_feed_17 : decode cX10_feed 17 = .ok (.invokevirtual 164, 3) := kq.at kqdX10_feed_0 10 rfl
theorem dX10_feed_20 : decode cX10_feed 20 = .ok (.aload_n 0, 1) := kq.at kqdX10_feed_0 11 rfl
theorem dX10_feed_21 : decode cX10_feed 21 = .ok (.iload_n 2, 1) := kq.at kqdX10_feed_0 12 rfl
theorem dX10_feed_22 : decode cX10_feed 22 = .ok (.invokevirtual 164, 3) := kq.at kqdX10_feed_0 13 rfl
theorem dX10_feed_25 : decode cX10_feed 25 = .ok (.aload_n 0, 1) := kq.at kqdX10_feed_0 14 rfl
theorem dX10_feed_26 : decode cX10_feed 26 = .ok (.iload_n 3, 1) := kq.at kqdX10_feed_0 15 rfl
theorem dX10_feed_27 : decode cX10_feed 27 = .ok (.invokevirtual 164, 3) := kq.at kqdX10_feed_0 16 rfl
theorem dX10_feed_30 : decode cX10_feed 30 = .ok (.aload_n 0, 1) := kq.at kqdX10_feed_0 17 rfl
theorem dX10_feed_31 : decode cX10_feed 31 = .ok (.iload 4, 2) := kq.at kqdX10_feed_0 18 rfl
theorem dX10_feed_33 : decode cX10_feed 33 = .ok (.invokevirtual 164, 3) := kq.at kqdX10_feed_0 19 rfl
theorem dX10_feed_36 : decode cX10_feed 36 = .ok (.aload_n 0, 1) := kq.at kqdX10_feed_0 20 rfl
theorem dX10_feed_37 : decode cX10_feed 37 = .ok (.iload 5, 2) := kq.at kqdX10_feed_0 21 rfl
theorem dX10_feed_39 : decode cX10_feed 39 = .ok (.invokevirtual 164, 3) := kq.at kqdX10_feed_0 22 rfl
theorem dX10_feed_42 : decode cX10_feed 42 = .ok (.aload_n 0, 1) := kq.at kqdX10_feed_0 23 rfl
theorem kqdX10_feed_43 : kq cX10_feed [(43, .getfield 13, 3), (46, .ireturn, 1)] = true := by decide +kernel
theorem dX10_feed_43 : decode cX10_feed 43 = .ok (.getfield 13, 3) := kq.at kqdX10_feed_43 0 rfl
theorem dX10_feed_46 : decode cX10_feed 46 = .ok (.ireturn, 1) := kq.at kqdX10_feed_43 1 rfl
theorem kqdX10_feedInt_0 : kq cX10_feedInt [(0, .bipush 24, 2), (2, .istore_n 2, 1), (3, .iload_n 2, 1), (4, .ifCond .lt 45, 3), (7, .aload_n 0, 1), (8, .getfield 13, 3), (11, .sipush 900, 3), (14, .if_icmp .ge 29, 3), (17, .aload_n 0, 1), (18, .getfield 9, 3), (21, .aload_n 0, 1), (22, .getfield 13, 3), (25, .iload_n 1, 1), (26, .iload_n 2, 1), (27, .iushr, 1), (28, .sipush 255, 3), (31, .iand, 1), (32, .iastore, 1), (33, .aload_n 0, 1), (34, .dup, 1), (35, .getfield 13, 3), (38, .iconst 1, 1), (39, .iadd, 1), (40, .putfield 13, 3)] = true := by decide +kernel
theorem dX10_feedInt_0 : decode cX10_feedInt 0 = .ok (.bipush 24, 2) := kq.at kqdX10_feedInt_0 0 rfl
theorem dX10_feedInt_2 : decode cX10_feedInt 2 = .ok (.istore_n 2, 1) := kq.at kqdX10_feedInt_0 1 rfl
theorem dX10_feedInt_3 : decode cX10_feedInt 3 = .ok (.iload_n 2, 1) := kq.at kqdX10_feedInt_0 2 rfl
theorem dX10_feedInt_4 : decode cX10_feedInt 4 = .ok (.ifCond .lt 45, 3) := kq.at kqdX10_feedInt_0 3 rfl
theorem dX10_feedInt_7 : decode cX10_feedInt 7 = .ok (.aload_n 0, 1) := kq.at kqdX10_feedInt_0 4 rfl
theorem dX10_feedInt_8 : decode cX10_feedInt 8 = .ok (.getfield 13, 3) := kq.at kqdX10_feedInt_0 5 rfl
theorem dX10_feedInt_11 : decode cX10_feedInt 11 = .ok (.sipush 900, 3) := kq.at kqdX10_feedInt_0 6 rfl
theorem dX10_feedInt_14 : decode cX10_feedInt 14 = .ok (.if_icmp .ge 29, 3) := kq.at kqdX10_feedInt_0 7 rfl
theorem dX10_feedInt_17 : decode cX10_feedInt 17 = .ok (.aload_n 0, 1) := kq.at kqdX10_feedInt_0 8 rfl
theorem dX10_feedInt_18 : decode cX10_feedInt 18 = .ok (.getfield 9, 3) := kq.at kqdX10_feedInt_0 9 rfl
theorem dX10_feedInt_21 : decode cX10_feedInt 21 = .ok (.aload_n 0, 1) := kq.at kqdX10_feedInt_0 10 rfl
theorem dX10_feedInt_22 : decode cX10_feedInt 22 = .ok (.getfield 13, 3) := kq.at kqdX10_feedInt_0 11 rfl
theorem dX10_feedInt_25 : decode cX10_feedInt 25 = .ok (.iload_n 1, 1) := kq.at kqdX10_feedInt_0 12 rfl
theorem dX10_feedInt_26 : decode cX10_feedInt 26 = .ok (.iload_n 2, 1) := kq.at kqdX10_feedInt_0 13 rfl
theorem dX10_feedInt_27 : decode cX10_feedInt 27 = .ok (.iushr, 1) := kq.at kqdX10_feedInt_0 14 rfl
theorem dX10_feedInt_28 : decode cX10_feedInt 28 = .ok (.sipush 255, 3) := kq.at kqdX10_feedInt_0 15 rfl
theorem dX10_feedInt_31 : decode cX10_feedInt 31 = .ok (.iand, 1) := kq.at kqdX10_feedInt_0 16 rfl
theorem dX10_feedInt_32 : decode cX10_feedInt 32 = .ok (.iastore, 1) := kq.at kqdX10_feedInt_0 17 rfl
theorem dX10_feedInt_33 : decode cX10_feedInt 33 = .ok (.aload_n 0, 1) := kq.at kqdX10_feedInt_0 18 rfl
theorem dX10_feedInt_34 : decode cX10_feedInt 34 = .ok (.dup, 1) := kq.at kqdX10_feedInt_0 19 rfl
theorem dX10_feedInt_35 : decode cX10_feedInt 35 = .ok (.getfield 13, 3) := kq.at kqdX10_feedInt_0 20 rfl
theorem dX10_feedInt_38 : decode cX10_feedInt 38 = .ok (.iconst 1, 1) := kq.at kqdX10_feedInt_0 21 rfl
theorem dX10_feedInt_39 : decode cX10_feedInt 39 = .ok (.iadd, 1) := kq.at kqdX10_feedInt_0 22 rfl
theorem dX10_feedInt_40 : decode cX10_feedInt 40 = .ok (.putfield 13, 3) := kq.at kqdX10_feedInt_0 23 rfl
theorem kqdX10_feedInt_43 : kq cX10_feedInt [(43, .iinc 2 (-8), 3), (46, .goto (-43), 3), (49, .return_, 1)] = true := by decide +kernel
theorem dX10_feedInt_43 : decode cX10_feedInt 43 = .ok (.iinc 2 (-8), 3) := kq.at kqdX10_feedInt_43 0 rfl
theorem dX10_feedInt_46 : decode cX10_feedInt 46 = .ok (.goto (-43), 3) := kq.at kqdX10_feedInt_43 1 rfl
theorem dX10_feedInt_49 : decode cX10_feedInt 49 = .ok (.return_, 1) := kq.at kqdX10_feedInt_43 2 rfl
theorem kqdX10_press_0 : kq cX10_press [(0, .iload_n 1, 1), (1, .ifCond .lt 11, 3), (4, .iload_n 1, 1), (5, .aload_n 0, 1), (6, .getfield 13, 3), (9, .if_icmp .le 9, 3), (12, .aload_n 0, 1), (13, .iconst 1, 1), (14, .invokevirtual 117, 3), (17, .ireturn, 1), (18, .aload_n 0, 1), (19, .getfield 43, 3), (22, .aload_n 0, 1), (23, .getfield 9, 3), (26, .iload_n 1, 1), (27, .invokevirtual 168, 3), (30, .istore_n 2, 1), (31, .aload_n 0, 1), (32, .iconst 0, 1), (33, .putfield 13, 3), (36, .aload_n 0, 1), (37, .aload_n 0, 1), (38, .getfield 43, 3), (41, .getfield 172, 3)] = true := by decide +kernel
theorem dX10_press_0 : decode cX10_press 0 = .ok (.iload_n 1, 1) := kq.at kqdX10_press_0 0 rfl
theorem dX10_press_1 : decode cX10_press 1 = .ok (.ifCond .lt 11, 3) := kq.at kqdX10_press_0 1 rfl
theorem dX10_press_4 : decode cX10_press 4 = .ok (.iload_n 1, 1) := kq.at kqdX10_press_0 2 rfl
theorem dX10_press_5 : decode cX10_press 5 = .ok (.aload_n 0, 1) := kq.at kqdX10_press_0 3 rfl
theorem dX10_press_6 : decode cX10_press 6 = .ok (.getfield 13, 3) := kq.at kqdX10_press_0 4 rfl
theorem dX10_press_9 : decode cX10_press 9 = .ok (.if_icmp .le 9, 3) := kq.at kqdX10_press_0 5 rfl
theorem dX10_press_12 : decode cX10_press 12 = .ok (.aload_n 0, 1) := kq.at kqdX10_press_0 6 rfl
theorem dX10_press_13 : decode cX10_press 13 = .ok (.iconst 1, 1) := kq.at kqdX10_press_0 7 rfl
theorem dX10_press_14 : decode cX10_press 14 = .ok (.invokevirtual 117, 3) := kq.at kqdX10_press_0 8 rfl
theorem dX10_press_17 : decode cX10_press 17 = .ok (.ireturn, 1) := kq.at kqdX10_press_0 9 rfl
theorem dX10_press_18 : decode cX10_press 18 = .ok (.aload_n 0, 1) := kq.at kqdX10_press_0 10 rfl
theorem dX10_press_19 : decode cX10_press 19 = .ok (.getfield 43, 3) := kq.at kqdX10_press_0 11 rfl
theorem dX10_press_22 : decode cX10_press 22 = .ok (.aload_n 0, 1) := kq.at kqdX10_press_0 12 rfl
theorem dX10_press_23 : decode cX10_press 23 = .ok (.getfield 9, 3) := kq.at kqdX10_press_0 13 rfl
theorem dX10_press_26 : decode cX10_press 26 = .ok (.iload_n 1, 1) := kq.at kqdX10_press_0 14 rfl
theorem dX10_press_27 : decode cX10_press 27 = .ok (.invokevirtual 168, 3) := kq.at kqdX10_press_0 15 rfl
theorem dX10_press_30 : decode cX10_press 30 = .ok (.istore_n 2, 1) := kq.at kqdX10_press_0 16 rfl
theorem dX10_press_31 : decode cX10_press 31 = .ok (.aload_n 0, 1) := kq.at kqdX10_press_0 17 rfl
theorem dX10_press_32 : decode cX10_press 32 = .ok (.iconst 0, 1) := kq.at kqdX10_press_0 18 rfl
theorem dX10_press_33 : decode cX10_press 33 = .ok (.putfield 13, 3) := kq.at kqdX10_press_0 19 rfl
theorem dX10_press_36 : decode cX10_press 36 = .ok (.aload_n 0, 1) := kq.at kqdX10_press_0 20 rfl
theorem dX10_press_37 : decode cX10_press 37 = .ok (.aload_n 0, 1) := kq.at kqdX10_press_0 21 rfl
theorem dX10_press_38 : decode cX10_press 38 = .ok (.getfield 43, 3) := kq.at kqdX10_press_0 22 rfl
theorem dX10_press_41 : decode cX10_press 41 = .ok (.getfield 172, 3) := kq.at kqdX10_press_0 23 rfl
theorem kqdX10_press_44 : kq cX10_press [(44, .putfield 20, 3), (47, .aload_n 0, 1), (48, .aload_n 0, 1), (49, .getfield 43, 3), (52, .getfield 173, 3), (55, .putfield 23, 3), (58, .iload_n 2, 1), (59, .ifCond .ne 10, 3), (62, .aload_n 0, 1), (63, .bipush 9, 2), (65, .invokevirtual 117, 3), (68, .ireturn, 1), (69, .aload_n 0, 1), (70, .getfield 50, 3), (73, .aload_n 0, 1), (74, .getfield 43, 3), (77, .getfield 176, 3), (80, .invokevirtual 177, 3), (83, .aload_n 0, 1), (84, .iconst 0, 1), (85, .putfield 61, 3), (88, .aload_n 0, 1), (89, .aload_n 0, 1), (90, .getfield 50, 3)] = true := by decide +kernel
theorem dX10_press_44 : decode cX10_press 44 = .ok (.putfield 20, 3) := kq.at kqdX10_press_44 0 rfl
theorem dX10_press_47 : decode cX10_press 47 = .ok (.aload_n 0, 1) := kq.at kqdX10_press_44 1 rfl
theorem dX10_press_48 : decode cX10_press 48 = .ok (.aload_n 0, 1) := kq.at kqdX10_press_44 2 rfl
theorem dX10_press_49 : decode cX10_press 49 = .ok (.getfield 43, 3) := kq.at kqdX10_press_44 3 rfl
theorem dX10_press_52 : decode cX10_press 52 = .ok (.getfield 173, 3) := kq.at kqdX10_press_44 4 rfl
theorem dX10_press_55 : decode cX10_press 55 = .ok (.putfield 23, 3) := kq.at kqdX10_press_44 5 rfl
theorem dX10_press_58 : decode cX10_press 58 = .ok (.iload_n 2, 1) := kq.at kqdX10_press_44 6 rfl
theorem dX10_press_59 : decode cX10_press 59 = .ok (.ifCond .ne 10, 3) := kq.at kqdX10_press_44 7 rfl
theorem dX10_press_62 : decode cX10_press 62 = .ok (.aload_n 0, 1) := kq.at kqdX10_press_44 8 rfl
theorem dX10_press_63 : decode cX10_press 63 = .ok (.bipush 9, 2) := kq.at kqdX10_press_44 9 rfl
theorem dX10_press_65 : decode cX10_press 65 = .ok (.invokevirtual 117, 3) := kq.at kqdX10_press_44 10 rfl
theorem dX10_press_68 : decode cX10_press 68 = .ok (.ireturn, 1) := kq.at kqdX10_press_44 11 rfl
theorem dX10_press_69 : decode cX10_press 69 = .ok (.aload_n 0, 1) := kq.at kqdX10_press_44 12 rfl
theorem dX10_press_70 : decode cX10_press 70 = .ok (.getfield 50, 3) := kq.at kqdX10_press_44 13 rfl
theorem dX10_press_73 : decode cX10_press 73 = .ok (.aload_n 0, 1) := kq.at kqdX10_press_44 14 rfl
theorem dX10_press_74 : decode cX10_press 74 = .ok (.getfield 43, 3) := kq.at kqdX10_press_44 15 rfl
theorem dX10_press_77 : decode cX10_press 77 = .ok (.getfield 176, 3) := kq.at kqdX10_press_44 16 rfl
theorem dX10_press_80 : decode cX10_press 80 = .ok (.invokevirtual 177, 3) := kq.at kqdX10_press_44 17 rfl
theorem dX10_press_83 : decode cX10_press 83 = .ok (.aload_n 0, 1) := kq.at kqdX10_press_44 18 rfl
theorem dX10_press_84 : decode cX10_press 84 = .ok (.iconst 0, 1) := kq.at kqdX10_press_44 19 rfl
theorem dX10_press_85 : decode cX10_press 85 = .ok (.putfield 61, 3) := kq.at kqdX10_press_44 20 rfl
theorem dX10_press_88 : decode cX10_press 88 = .ok (.aload_n 0, 1) := kq.at kqdX10_press_44 21 rfl
theorem dX10_press_89 : decode cX10_press 89 = .ok (.aload_n 0, 1) := kq.at kqdX10_press_44 22 rfl
theorem dX10_press_90 : decode cX10_press 90 = .ok (.getfield 50, 3) := kq.at kqdX10_press_44 23 rfl
theorem kqdX10_press_93 : kq cX10_press [(93, .getfield 181, 3), (96, .invokevirtual 113, 3), (99, .ireturn, 1)] = true := by decide +kernel
theorem dX10_press_93 : decode cX10_press 93 = .ok (.getfield 181, 3) := kq.at kqdX10_press_93 0 rfl
theorem dX10_press_96 : decode cX10_press 96 = .ok (.invokevirtual 113, 3) := kq.at kqdX10_press_93 1 rfl
theorem dX10_press_99 : decode cX10_press 99 = .ok (.ireturn, 1) := kq.at kqdX10_press_93 2 rfl
theorem kqdX10_writing_0 : kq cX10_writing [(0, .iload_n 1, 1), (1, .ifCond .lt 18, 3), (4, .iload_n 1, 1), (5, .aload_n 0, 1), (6, .getfield 13, 3), (9, .if_icmp .gt 10, 3), (12, .iload_n 1, 1), (13, .sipush 300, 3), (16, .if_icmp .le 9, 3), (19, .aload_n 0, 1), (20, .iconst 1, 1), (21, .invokevirtual 117, 3), (24, .ireturn, 1), (25, .aload_n 0, 1), (26, .getfield 72, 3), (29, .aload_n 0, 1), (30, .getfield 9, 3), (33, .iload_n 1, 1), (34, .aload_n 0, 1), (35, .getfield 50, 3), (38, .aload_n 0, 1), (39, .getfield 50, 3), (42, .getfield 184, 3), (45, .invokevirtual 187, 3)] = true := by decide +kernel
theorem dX10_writing_0 : decode cX10_writing 0 = .ok (.iload_n 1, 1) := kq.at kqdX10_writing_0 0 rfl
theorem dX10_writing_1 : decode cX10_writing 1 = .ok (.ifCond .lt 18, 3) := kq.at kqdX10_writing_0 1 rfl
theorem dX10_writing_4 : decode cX10_writing 4 = .ok (.iload_n 1, 1) := kq.at kqdX10_writing_0 2 rfl
theorem dX10_writing_5 : decode cX10_writing 5 = .ok (.aload_n 0, 1) := kq.at kqdX10_writing_0 3 rfl
theorem dX10_writing_6 : decode cX10_writing 6 = .ok (.getfield 13, 3) := kq.at kqdX10_writing_0 4 rfl
theorem dX10_writing_9 : decode cX10_writing 9 = .ok (.if_icmp .gt 10, 3) := kq.at kqdX10_writing_0 5 rfl
theorem dX10_writing_12 : decode cX10_writing 12 = .ok (.iload_n 1, 1) := kq.at kqdX10_writing_0 6 rfl
theorem dX10_writing_13 : decode cX10_writing 13 = .ok (.sipush 300, 3) := kq.at kqdX10_writing_0 7 rfl
theorem dX10_writing_16 : decode cX10_writing 16 = .ok (.if_icmp .le 9, 3) := kq.at kqdX10_writing_0 8 rfl
theorem dX10_writing_19 : decode cX10_writing 19 = .ok (.aload_n 0, 1) := kq.at kqdX10_writing_0 9 rfl
theorem dX10_writing_20 : decode cX10_writing 20 = .ok (.iconst 1, 1) := kq.at kqdX10_writing_0 10 rfl
theorem dX10_writing_21 : decode cX10_writing 21 = .ok (.invokevirtual 117, 3) := kq.at kqdX10_writing_0 11 rfl
theorem dX10_writing_24 : decode cX10_writing 24 = .ok (.ireturn, 1) := kq.at kqdX10_writing_0 12 rfl
theorem dX10_writing_25 : decode cX10_writing 25 = .ok (.aload_n 0, 1) := kq.at kqdX10_writing_0 13 rfl
theorem dX10_writing_26 : decode cX10_writing 26 = .ok (.getfield 72, 3) := kq.at kqdX10_writing_0 14 rfl
theorem dX10_writing_29 : decode cX10_writing 29 = .ok (.aload_n 0, 1) := kq.at kqdX10_writing_0 15 rfl
theorem dX10_writing_30 : decode cX10_writing 30 = .ok (.getfield 9, 3) := kq.at kqdX10_writing_0 16 rfl
theorem dX10_writing_33 : decode cX10_writing 33 = .ok (.iload_n 1, 1) := kq.at kqdX10_writing_0 17 rfl
theorem dX10_writing_34 : decode cX10_writing 34 = .ok (.aload_n 0, 1) := kq.at kqdX10_writing_0 18 rfl
theorem dX10_writing_35 : decode cX10_writing 35 = .ok (.getfield 50, 3) := kq.at kqdX10_writing_0 19 rfl
theorem dX10_writing_38 : decode cX10_writing 38 = .ok (.aload_n 0, 1) := kq.at kqdX10_writing_0 20 rfl
theorem dX10_writing_39 : decode cX10_writing 39 = .ok (.getfield 50, 3) := kq.at kqdX10_writing_0 21 rfl
theorem dX10_writing_42 : decode cX10_writing 42 = .ok (.getfield 184, 3) := kq.at kqdX10_writing_0 22 rfl
theorem dX10_writing_45 : decode cX10_writing 45 = .ok (.invokevirtual 187, 3) := kq.at kqdX10_writing_0 23 rfl
theorem kqdX10_writing_48 : kq cX10_writing [(48, .istore_n 2, 1), (49, .aload_n 0, 1), (50, .iconst 0, 1), (51, .putfield 13, 3), (54, .aload_n 0, 1), (55, .aload_n 0, 1), (56, .getfield 72, 3), (59, .getfield 191, 3), (62, .putfield 20, 3), (65, .aload_n 0, 1), (66, .aload_n 0, 1), (67, .getfield 72, 3), (70, .getfield 192, 3), (73, .putfield 23, 3), (76, .iload_n 2, 1), (77, .ifCond .ne 10, 3), (80, .aload_n 0, 1), (81, .bipush 9, 2), (83, .invokevirtual 117, 3), (86, .ireturn, 1), (87, .aload_n 0, 1), (88, .getfield 57, 3), (91, .aload_n 0, 1), (92, .getfield 9, 3)] = true := by decide +kernel
theorem dX10_writing_48 : decode cX10_writing 48 = .ok (.istore_n 2, 1) := kq.at kqdX10_writing_48 0 rfl
theorem dX10_writing_49 : decode cX10_writing 49 = .ok (.aload_n 0, 1) := kq.at kqdX10_writing_48 1 rfl
theorem dX10_writing_50 : decode cX10_writing 50 = .ok (.iconst 0, 1) := kq.at kqdX10_writing_48 2 rfl
theorem dX10_writing_51 : decode cX10_writing 51 = .ok (.putfield 13, 3) := kq.at kqdX10_writing_48 3 rfl
theorem dX10_writing_54 : decode cX10_writing 54 = .ok (.aload_n 0, 1) := kq.at kqdX10_writing_48 4 rfl
theorem dX10_writing_55 : decode cX10_writing 55 = .ok (.aload_n 0, 1) := kq.at kqdX10_writing_48 5 rfl
theorem dX10_writing_56 : decode cX10_writing 56 = .ok (.getfield 72, 3) := kq.at kqdX10_writing_48 6 rfl
theorem dX10_writing_59 : decode cX10_writing 59 = .ok (.getfield 191, 3) := kq.at kqdX10_writing_48 7 rfl
theorem dX10_writing_62 : decode cX10_writing 62 = .ok (.putfield 20, 3) := kq.at kqdX10_writing_48 8 rfl
theorem dX10_writing_65 : decode cX10_writing 65 = .ok (.aload_n 0, 1) := kq.at kqdX10_writing_48 9 rfl
theorem dX10_writing_66 : decode cX10_writing 66 = .ok (.aload_n 0, 1) := kq.at kqdX10_writing_48 10 rfl
theorem dX10_writing_67 : decode cX10_writing 67 = .ok (.getfield 72, 3) := kq.at kqdX10_writing_48 11 rfl
theorem dX10_writing_70 : decode cX10_writing 70 = .ok (.getfield 192, 3) := kq.at kqdX10_writing_48 12 rfl
theorem dX10_writing_73 : decode cX10_writing 73 = .ok (.putfield 23, 3) := kq.at kqdX10_writing_48 13 rfl
theorem dX10_writing_76 : decode cX10_writing 76 = .ok (.iload_n 2, 1) := kq.at kqdX10_writing_48 14 rfl
theorem dX10_writing_77 : decode cX10_writing 77 = .ok (.ifCond .ne 10, 3) := kq.at kqdX10_writing_48 15 rfl
theorem dX10_writing_80 : decode cX10_writing 80 = .ok (.aload_n 0, 1) := kq.at kqdX10_writing_48 16 rfl
theorem dX10_writing_81 : decode cX10_writing 81 = .ok (.bipush 9, 2) := kq.at kqdX10_writing_48 17 rfl
theorem dX10_writing_83 : decode cX10_writing 83 = .ok (.invokevirtual 117, 3) := kq.at kqdX10_writing_48 18 rfl
theorem dX10_writing_86 : decode cX10_writing 86 = .ok (.ireturn, 1) := kq.at kqdX10_writing_48 19 rfl
theorem dX10_writing_87 : decode cX10_writing 87 = .ok (.aload_n 0, 1) := kq.at kqdX10_writing_48 20 rfl
theorem dX10_writing_88 : decode cX10_writing 88 = .ok (.getfield 57, 3) := kq.at kqdX10_writing_48 21 rfl
theorem dX10_writing_91 : decode cX10_writing 91 = .ok (.aload_n 0, 1) := kq.at kqdX10_writing_48 22 rfl
theorem dX10_writing_92 : decode cX10_writing 92 = .ok (.getfield 9, 3) := kq.at kqdX10_writing_48 23 rfl
theorem kqdX10_writing_95 : kq cX10_writing [(95, .iload_n 1, 1), (96, .invokevirtual 193, 3), (99, .aload_n 0, 1), (100, .invokevirtual 197, 3), (103, .aload_n 0, 1), (104, .aload_n 0, 1), (105, .getfield 68, 3), (108, .getfield 200, 3), (111, .invokevirtual 113, 3), (114, .ireturn, 1)] = true := by decide +kernel
theorem dX10_writing_95 : decode cX10_writing 95 = .ok (.iload_n 1, 1) := kq.at kqdX10_writing_95 0 rfl
theorem dX10_writing_96 : decode cX10_writing 96 = .ok (.invokevirtual 193, 3) := kq.at kqdX10_writing_95 1 rfl
theorem dX10_writing_99 : decode cX10_writing 99 = .ok (.aload_n 0, 1) := kq.at kqdX10_writing_95 2 rfl
theorem dX10_writing_100 : decode cX10_writing 100 = .ok (.invokevirtual 197, 3) := kq.at kqdX10_writing_95 3 rfl
theorem dX10_writing_103 : decode cX10_writing 103 = .ok (.aload_n 0, 1) := kq.at kqdX10_writing_95 4 rfl
theorem dX10_writing_104 : decode cX10_writing 104 = .ok (.aload_n 0, 1) := kq.at kqdX10_writing_95 5 rfl
theorem dX10_writing_105 : decode cX10_writing 105 = .ok (.getfield 68, 3) := kq.at kqdX10_writing_95 6 rfl
theorem dX10_writing_108 : decode cX10_writing 108 = .ok (.getfield 200, 3) := kq.at kqdX10_writing_95 7 rfl
theorem dX10_writing_111 : decode cX10_writing 111 = .ok (.invokevirtual 113, 3) := kq.at kqdX10_writing_95 8 rfl
theorem dX10_writing_114 : decode cX10_writing 114 = .ok (.ireturn, 1) := kq.at kqdX10_writing_95 9 rfl
theorem kqdX10_showSpare_0 : kq cX10_showSpare [(0, .aload_n 0, 1), (1, .getfield 68, 3), (4, .astore_n 1, 1), (5, .aload_n 0, 1), (6, .aload_n 0, 1), (7, .getfield 72, 3), (10, .putfield 68, 3), (13, .aload_n 0, 1), (14, .aload_n 1, 1), (15, .putfield 72, 3), (18, .aload_n 0, 1), (19, .iconst 1, 1), (20, .putfield 61, 3), (23, .aload_n 0, 1), (24, .getfield 78, 3), (27, .aload_n 0, 1), (28, .getfield 68, 3), (31, .aload_n 0, 1), (32, .getfield 50, 3), (35, .invokevirtual 203, 3), (38, .return_, 1)] = true := by decide +kernel
theorem dX10_showSpare_0 : decode cX10_showSpare 0 = .ok (.aload_n 0, 1) := kq.at kqdX10_showSpare_0 0 rfl
theorem dX10_showSpare_1 : decode cX10_showSpare 1 = .ok (.getfield 68, 3) := kq.at kqdX10_showSpare_0 1 rfl
theorem dX10_showSpare_4 : decode cX10_showSpare 4 = .ok (.astore_n 1, 1) := kq.at kqdX10_showSpare_0 2 rfl
theorem dX10_showSpare_5 : decode cX10_showSpare 5 = .ok (.aload_n 0, 1) := kq.at kqdX10_showSpare_0 3 rfl
theorem dX10_showSpare_6 : decode cX10_showSpare 6 = .ok (.aload_n 0, 1) := kq.at kqdX10_showSpare_0 4 rfl
theorem dX10_showSpare_7 : decode cX10_showSpare 7 = .ok (.getfield 72, 3) := kq.at kqdX10_showSpare_0 5 rfl
theorem dX10_showSpare_10 : decode cX10_showSpare 10 = .ok (.putfield 68, 3) := kq.at kqdX10_showSpare_0 6 rfl
theorem dX10_showSpare_13 : decode cX10_showSpare 13 = .ok (.aload_n 0, 1) := kq.at kqdX10_showSpare_0 7 rfl
theorem dX10_showSpare_14 : decode cX10_showSpare 14 = .ok (.aload_n 1, 1) := kq.at kqdX10_showSpare_0 8 rfl
theorem dX10_showSpare_15 : decode cX10_showSpare 15 = .ok (.putfield 72, 3) := kq.at kqdX10_showSpare_0 9 rfl
theorem dX10_showSpare_18 : decode cX10_showSpare 18 = .ok (.aload_n 0, 1) := kq.at kqdX10_showSpare_0 10 rfl
theorem dX10_showSpare_19 : decode cX10_showSpare 19 = .ok (.iconst 1, 1) := kq.at kqdX10_showSpare_0 11 rfl
theorem dX10_showSpare_20 : decode cX10_showSpare 20 = .ok (.putfield 61, 3) := kq.at kqdX10_showSpare_0 12 rfl
theorem dX10_showSpare_23 : decode cX10_showSpare 23 = .ok (.aload_n 0, 1) := kq.at kqdX10_showSpare_0 13 rfl
theorem dX10_showSpare_24 : decode cX10_showSpare 24 = .ok (.getfield 78, 3) := kq.at kqdX10_showSpare_0 14 rfl
theorem dX10_showSpare_27 : decode cX10_showSpare 27 = .ok (.aload_n 0, 1) := kq.at kqdX10_showSpare_0 15 rfl
theorem dX10_showSpare_28 : decode cX10_showSpare 28 = .ok (.getfield 68, 3) := kq.at kqdX10_showSpare_0 16 rfl
theorem dX10_showSpare_31 : decode cX10_showSpare 31 = .ok (.aload_n 0, 1) := kq.at kqdX10_showSpare_0 17 rfl
theorem dX10_showSpare_32 : decode cX10_showSpare 32 = .ok (.getfield 50, 3) := kq.at kqdX10_showSpare_0 18 rfl
theorem dX10_showSpare_35 : decode cX10_showSpare 35 = .ok (.invokevirtual 203, 3) := kq.at kqdX10_showSpare_0 19 rfl
theorem dX10_showSpare_38 : decode cX10_showSpare 38 = .ok (.return_, 1) := kq.at kqdX10_showSpare_0 20 rfl
theorem kqdX10_fault_0 : kq cX10_fault [(0, .iload_n 1, 1), (1, .ifCond .ne 8, 3), (4, .aload_n 0, 1), (5, .getfield 20, 3), (8, .ireturn, 1), (9, .iload_n 1, 1), (10, .iconst 1, 1), (11, .if_icmp .ne 10, 3), (14, .aload_n 0, 1), (15, .getfield 23, 3), (18, .goto 4, 3), (21, .iconst (-1), 1), (22, .ireturn, 1)] = true := by decide +kernel
theorem dX10_fault_0 : decode cX10_fault 0 = .ok (.iload_n 1, 1) := kq.at kqdX10_fault_0 0 rfl
theorem dX10_fault_1 : decode cX10_fault 1 = .ok (.ifCond .ne 8, 3) := kq.at kqdX10_fault_0 1 rfl
theorem dX10_fault_4 : decode cX10_fault 4 = .ok (.aload_n 0, 1) := kq.at kqdX10_fault_0 2 rfl
theorem dX10_fault_5 : decode cX10_fault 5 = .ok (.getfield 20, 3) := kq.at kqdX10_fault_0 3 rfl
theorem dX10_fault_8 : decode cX10_fault 8 = .ok (.ireturn, 1) := kq.at kqdX10_fault_0 4 rfl
theorem dX10_fault_9 : decode cX10_fault 9 = .ok (.iload_n 1, 1) := kq.at kqdX10_fault_0 5 rfl
theorem dX10_fault_10 : decode cX10_fault 10 = .ok (.iconst 1, 1) := kq.at kqdX10_fault_0 6 rfl
theorem dX10_fault_11 : decode cX10_fault 11 = .ok (.if_icmp .ne 10, 3) := kq.at kqdX10_fault_0 7 rfl
theorem dX10_fault_14 : decode cX10_fault 14 = .ok (.aload_n 0, 1) := kq.at kqdX10_fault_0 8 rfl
theorem dX10_fault_15 : decode cX10_fault 15 = .ok (.getfield 23, 3) := kq.at kqdX10_fault_0 9 rfl
theorem dX10_fault_18 : decode cX10_fault 18 = .ok (.goto 4, 3) := kq.at kqdX10_fault_0 10 rfl
theorem dX10_fault_21 : decode cX10_fault 21 = .ok (.iconst (-1), 1) := kq.at kqdX10_fault_0 11 rfl
theorem dX10_fault_22 : decode cX10_fault 22 = .ok (.ireturn, 1) := kq.at kqdX10_fault_0 12 rfl
theorem kqdX10_told_0 : kq cX10_told [(0, .iload_n 1, 1), (1, .ifCond .lt 9, 3), (4, .iload_n 1, 1), (5, .bipush 6, 2), (7, .if_icmp .le 9, 3), (10, .aload_n 0, 1), (11, .iconst 1, 1), (12, .invokevirtual 117, 3), (15, .ireturn, 1), (16, .iload_n 1, 1), (17, .ifCond .ne 15, 3), (20, .aload_n 0, 1), (21, .aload_n 0, 1), (22, .getfield 50, 3), (25, .getfield 181, 3), (28, .invokevirtual 113, 3), (31, .ireturn, 1), (32, .iload_n 1, 1), (33, .iconst 5, 1), (34, .if_icmp .le 15, 3), (37, .aload_n 0, 1), (38, .aload_n 0, 1), (39, .getfield 50, 3), (42, .getfield 184, 3)] = true := by decide +kernel
theorem dX10_told_0 : decode cX10_told 0 = .ok (.iload_n 1, 1) := kq.at kqdX10_told_0 0 rfl
theorem dX10_told_1 : decode cX10_told 1 = .ok (.ifCond .lt 9, 3) := kq.at kqdX10_told_0 1 rfl
theorem dX10_told_4 : decode cX10_told 4 = .ok (.iload_n 1, 1) := kq.at kqdX10_told_0 2 rfl
theorem dX10_told_5 : decode cX10_told 5 = .ok (.bipush 6, 2) := kq.at kqdX10_told_0 3 rfl
theorem dX10_told_7 : decode cX10_told 7 = .ok (.if_icmp .le 9, 3) := kq.at kqdX10_told_0 4 rfl
theorem dX10_told_10 : decode cX10_told 10 = .ok (.aload_n 0, 1) := kq.at kqdX10_told_0 5 rfl
theorem dX10_told_11 : decode cX10_told 11 = .ok (.iconst 1, 1) := kq.at kqdX10_told_0 6 rfl
theorem dX10_told_12 : decode cX10_told 12 = .ok (.invokevirtual 117, 3) := kq.at kqdX10_told_0 7 rfl
theorem dX10_told_15 : decode cX10_told 15 = .ok (.ireturn, 1) := kq.at kqdX10_told_0 8 rfl
theorem dX10_told_16 : decode cX10_told 16 = .ok (.iload_n 1, 1) := kq.at kqdX10_told_0 9 rfl
theorem dX10_told_17 : decode cX10_told 17 = .ok (.ifCond .ne 15, 3) := kq.at kqdX10_told_0 10 rfl
theorem dX10_told_20 : decode cX10_told 20 = .ok (.aload_n 0, 1) := kq.at kqdX10_told_0 11 rfl
theorem dX10_told_21 : decode cX10_told 21 = .ok (.aload_n 0, 1) := kq.at kqdX10_told_0 12 rfl
theorem dX10_told_22 : decode cX10_told 22 = .ok (.getfield 50, 3) := kq.at kqdX10_told_0 13 rfl
theorem dX10_told_25 : decode cX10_told 25 = .ok (.getfield 181, 3) := kq.at kqdX10_told_0 14 rfl
theorem dX10_told_28 : decode cX10_told 28 = .ok (.invokevirtual 113, 3) := kq.at kqdX10_told_0 15 rfl
theorem dX10_told_31 : decode cX10_told 31 = .ok (.ireturn, 1) := kq.at kqdX10_told_0 16 rfl
theorem dX10_told_32 : decode cX10_told 32 = .ok (.iload_n 1, 1) := kq.at kqdX10_told_0 17 rfl
theorem dX10_told_33 : decode cX10_told 33 = .ok (.iconst 5, 1) := kq.at kqdX10_told_0 18 rfl
theorem dX10_told_34 : decode cX10_told 34 = .ok (.if_icmp .le 15, 3) := kq.at kqdX10_told_0 19 rfl
theorem dX10_told_37 : decode cX10_told 37 = .ok (.aload_n 0, 1) := kq.at kqdX10_told_0 20 rfl
theorem dX10_told_38 : decode cX10_told 38 = .ok (.aload_n 0, 1) := kq.at kqdX10_told_0 21 rfl
theorem dX10_told_39 : decode cX10_told 39 = .ok (.getfield 50, 3) := kq.at kqdX10_told_0 22 rfl
theorem dX10_told_42 : decode cX10_told 42 = .ok (.getfield 184, 3) := kq.at kqdX10_told_0 23 rfl
theorem kqdX10_told_45 : kq cX10_told [(45, .invokevirtual 113, 3), (48, .ireturn, 1), (49, .aload_n 0, 1), (50, .getfield 50, 3), (53, .getfield 206, 3), (56, .iload_n 1, 1), (57, .iconst 1, 1), (58, .isub, 1), (59, .iaload, 1), (60, .istore_n 2, 1), (61, .aload_n 0, 1), (62, .iload_n 2, 1), (63, .ifCond .eq 7, 3), (66, .iconst 1, 1), (67, .goto 4, 3), (70, .iconst 0, 1), (71, .iload_n 2, 1), (72, .bipush 6, 2), (74, .invokevirtual 209, 3), (77, .ireturn, 1)] = true := by decide +kernel
theorem dX10_told_45 : decode cX10_told 45 = .ok (.invokevirtual 113, 3) := kq.at kqdX10_told_45 0 rfl
theorem dX10_told_48 : decode cX10_told 48 = .ok (.ireturn, 1) := kq.at kqdX10_told_45 1 rfl
theorem dX10_told_49 : decode cX10_told 49 = .ok (.aload_n 0, 1) := kq.at kqdX10_told_45 2 rfl
theorem dX10_told_50 : decode cX10_told 50 = .ok (.getfield 50, 3) := kq.at kqdX10_told_45 3 rfl
theorem dX10_told_53 : decode cX10_told 53 = .ok (.getfield 206, 3) := kq.at kqdX10_told_45 4 rfl
theorem dX10_told_56 : decode cX10_told 56 = .ok (.iload_n 1, 1) := kq.at kqdX10_told_45 5 rfl
theorem dX10_told_57 : decode cX10_told 57 = .ok (.iconst 1, 1) := kq.at kqdX10_told_45 6 rfl
theorem dX10_told_58 : decode cX10_told 58 = .ok (.isub, 1) := kq.at kqdX10_told_45 7 rfl
theorem dX10_told_59 : decode cX10_told 59 = .ok (.iaload, 1) := kq.at kqdX10_told_45 8 rfl
theorem dX10_told_60 : decode cX10_told 60 = .ok (.istore_n 2, 1) := kq.at kqdX10_told_45 9 rfl
theorem dX10_told_61 : decode cX10_told 61 = .ok (.aload_n 0, 1) := kq.at kqdX10_told_45 10 rfl
theorem dX10_told_62 : decode cX10_told 62 = .ok (.iload_n 2, 1) := kq.at kqdX10_told_45 11 rfl
theorem dX10_told_63 : decode cX10_told 63 = .ok (.ifCond .eq 7, 3) := kq.at kqdX10_told_45 12 rfl
theorem dX10_told_66 : decode cX10_told 66 = .ok (.iconst 1, 1) := kq.at kqdX10_told_45 13 rfl
theorem dX10_told_67 : decode cX10_told 67 = .ok (.goto 4, 3) := kq.at kqdX10_told_45 14 rfl
theorem dX10_told_70 : decode cX10_told 70 = .ok (.iconst 0, 1) := kq.at kqdX10_told_45 15 rfl
theorem dX10_told_71 : decode cX10_told 71 = .ok (.iload_n 2, 1) := kq.at kqdX10_told_45 16 rfl
theorem dX10_told_72 : decode cX10_told 72 = .ok (.bipush 6, 2) := kq.at kqdX10_told_45 17 rfl
theorem dX10_told_74 : decode cX10_told 74 = .ok (.invokevirtual 209, 3) := kq.at kqdX10_told_45 18 rfl
theorem dX10_told_77 : decode cX10_told 77 = .ok (.ireturn, 1) := kq.at kqdX10_told_45 19 rfl
theorem kqdX10_rule_0 : kq cX10_rule [(0, .aload_n 0, 1), (1, .getfield 50, 3), (4, .iload_n 1, 1), (5, .invokevirtual 213, 3), (8, .ifCond .eq 12, 3), (11, .iload_n 2, 1), (12, .ifCond .lt 8, 3), (15, .iload_n 2, 1), (16, .iconst 2, 1), (17, .if_icmp .le 9, 3), (20, .aload_n 0, 1), (21, .iconst 1, 1), (22, .invokevirtual 117, 3), (25, .ireturn, 1), (26, .iload_n 2, 1), (27, .ifCond .ne 17, 3), (30, .aload_n 0, 1), (31, .aload_n 0, 1), (32, .getfield 50, 3), (35, .getfield 216, 3), (38, .iload_n 1, 1), (39, .iaload, 1), (40, .invokevirtual 113, 3), (43, .ireturn, 1)] = true := by decide +kernel
theorem dX10_rule_0 : decode cX10_rule 0 = .ok (.aload_n 0, 1) := kq.at kqdX10_rule_0 0 rfl
theorem dX10_rule_1 : decode cX10_rule 1 = .ok (.getfield 50, 3) := kq.at kqdX10_rule_0 1 rfl
theorem dX10_rule_4 : decode cX10_rule 4 = .ok (.iload_n 1, 1) := kq.at kqdX10_rule_0 2 rfl
theorem dX10_rule_5 : decode cX10_rule 5 = .ok (.invokevirtual 213, 3) := kq.at kqdX10_rule_0 3 rfl
theorem dX10_rule_8 : decode cX10_rule 8 = .ok (.ifCond .eq 12, 3) := kq.at kqdX10_rule_0 4 rfl
theorem dX10_rule_11 : decode cX10_rule 11 = .ok (.iload_n 2, 1) := kq.at kqdX10_rule_0 5 rfl
theorem dX10_rule_12 : decode cX10_rule 12 = .ok (.ifCond .lt 8, 3) := kq.at kqdX10_rule_0 6 rfl
theorem dX10_rule_15 : decode cX10_rule 15 = .ok (.iload_n 2, 1) := kq.at kqdX10_rule_0 7 rfl
theorem dX10_rule_16 : decode cX10_rule 16 = .ok (.iconst 2, 1) := kq.at kqdX10_rule_0 8 rfl
theorem dX10_rule_17 : decode cX10_rule 17 = .ok (.if_icmp .le 9, 3) := kq.at kqdX10_rule_0 9 rfl
theorem dX10_rule_20 : decode cX10_rule 20 = .ok (.aload_n 0, 1) := kq.at kqdX10_rule_0 10 rfl
theorem dX10_rule_21 : decode cX10_rule 21 = .ok (.iconst 1, 1) := kq.at kqdX10_rule_0 11 rfl
theorem dX10_rule_22 : decode cX10_rule 22 = .ok (.invokevirtual 117, 3) := kq.at kqdX10_rule_0 12 rfl
theorem dX10_rule_25 : decode cX10_rule 25 = .ok (.ireturn, 1) := kq.at kqdX10_rule_0 13 rfl
theorem dX10_rule_26 : decode cX10_rule 26 = .ok (.iload_n 2, 1) := kq.at kqdX10_rule_0 14 rfl
theorem dX10_rule_27 : decode cX10_rule 27 = .ok (.ifCond .ne 17, 3) := kq.at kqdX10_rule_0 15 rfl
theorem dX10_rule_30 : decode cX10_rule 30 = .ok (.aload_n 0, 1) := kq.at kqdX10_rule_0 16 rfl
theorem dX10_rule_31 : decode cX10_rule 31 = .ok (.aload_n 0, 1) := kq.at kqdX10_rule_0 17 rfl
theorem dX10_rule_32 : decode cX10_rule 32 = .ok (.getfield 50, 3) := kq.at kqdX10_rule_0 18 rfl
theorem dX10_rule_35 : decode cX10_rule 35 = .ok (.getfield 216, 3) := kq.at kqdX10_rule_0 19 rfl
theorem dX10_rule_38 : decode cX10_rule 38 = .ok (.iload_n 1, 1) := kq.at kqdX10_rule_0 20 rfl
theorem dX10_rule_39 : decode cX10_rule 39 = .ok (.iaload, 1) := kq.at kqdX10_rule_0 21 rfl
theorem dX10_rule_40 : decode cX10_rule 40 = .ok (.invokevirtual 113, 3) := kq.at kqdX10_rule_0 22 rfl
theorem dX10_rule_43 : decode cX10_rule 43 = .ok (.ireturn, 1) := kq.at kqdX10_rule_0 23 rfl
theorem kqdX10_rule_44 : kq cX10_rule [(44, .aload_n 0, 1), (45, .iload_n 2, 1), (46, .iconst 1, 1), (47, .if_icmp .ne 15, 3), (50, .aload_n 0, 1), (51, .getfield 50, 3), (54, .getfield 219, 3), (57, .iload_n 1, 1), (58, .iaload, 1), (59, .goto 12, 3), (62, .aload_n 0, 1), (63, .getfield 50, 3), (66, .getfield 222, 3), (69, .iload_n 1, 1), (70, .iaload, 1), (71, .invokevirtual 113, 3), (74, .ireturn, 1)] = true := by decide +kernel
theorem dX10_rule_44 : decode cX10_rule 44 = .ok (.aload_n 0, 1) := kq.at kqdX10_rule_44 0 rfl
theorem dX10_rule_45 : decode cX10_rule 45 = .ok (.iload_n 2, 1) := kq.at kqdX10_rule_44 1 rfl
theorem dX10_rule_46 : decode cX10_rule 46 = .ok (.iconst 1, 1) := kq.at kqdX10_rule_44 2 rfl
theorem dX10_rule_47 : decode cX10_rule 47 = .ok (.if_icmp .ne 15, 3) := kq.at kqdX10_rule_44 3 rfl
theorem dX10_rule_50 : decode cX10_rule 50 = .ok (.aload_n 0, 1) := kq.at kqdX10_rule_44 4 rfl
theorem dX10_rule_51 : decode cX10_rule 51 = .ok (.getfield 50, 3) := kq.at kqdX10_rule_44 5 rfl
theorem dX10_rule_54 : decode cX10_rule 54 = .ok (.getfield 219, 3) := kq.at kqdX10_rule_44 6 rfl
theorem dX10_rule_57 : decode cX10_rule 57 = .ok (.iload_n 1, 1) := kq.at kqdX10_rule_44 7 rfl
theorem dX10_rule_58 : decode cX10_rule 58 = .ok (.iaload, 1) := kq.at kqdX10_rule_44 8 rfl
theorem dX10_rule_59 : decode cX10_rule 59 = .ok (.goto 12, 3) := kq.at kqdX10_rule_44 9 rfl
theorem dX10_rule_62 : decode cX10_rule 62 = .ok (.aload_n 0, 1) := kq.at kqdX10_rule_44 10 rfl
theorem dX10_rule_63 : decode cX10_rule 63 = .ok (.getfield 50, 3) := kq.at kqdX10_rule_44 11 rfl
theorem dX10_rule_66 : decode cX10_rule 66 = .ok (.getfield 222, 3) := kq.at kqdX10_rule_44 12 rfl
theorem dX10_rule_69 : decode cX10_rule 69 = .ok (.iload_n 1, 1) := kq.at kqdX10_rule_44 13 rfl
theorem dX10_rule_70 : decode cX10_rule 70 = .ok (.iaload, 1) := kq.at kqdX10_rule_44 14 rfl
theorem dX10_rule_71 : decode cX10_rule 71 = .ok (.invokevirtual 113, 3) := kq.at kqdX10_rule_44 15 rfl
theorem dX10_rule_74 : decode cX10_rule 74 = .ok (.ireturn, 1) := kq.at kqdX10_rule_44 16 rfl
theorem kqdX10_letter_0 : kq cX10_letter [(0, .aload_n 0, 1), (1, .getfield 50, 3), (4, .iload_n 1, 1), (5, .invokevirtual 213, 3), (8, .ifCond .ne 9, 3), (11, .aload_n 0, 1), (12, .iconst 1, 1), (13, .invokevirtual 117, 3), (16, .ireturn, 1), (17, .iload_n 2, 1), (18, .ifCond .lt 16, 3), (21, .iload_n 2, 1), (22, .aload_n 0, 1), (23, .getfield 50, 3), (26, .getfield 216, 3), (29, .iload_n 1, 1), (30, .iaload, 1), (31, .if_icmp .lt 10, 3), (34, .aload_n 0, 1), (35, .bipush 6, 2), (37, .invokevirtual 117, 3), (40, .ireturn, 1), (41, .aload_n 0, 1), (42, .aload_n 0, 1)] = true := by decide +kernel
theorem dX10_letter_0 : decode cX10_letter 0 = .ok (.aload_n 0, 1) := kq.at kqdX10_letter_0 0 rfl
theorem dX10_letter_1 : decode cX10_letter 1 = .ok (.getfield 50, 3) := kq.at kqdX10_letter_0 1 rfl
theorem dX10_letter_4 : decode cX10_letter 4 = .ok (.iload_n 1, 1) := kq.at kqdX10_letter_0 2 rfl
theorem dX10_letter_5 : decode cX10_letter 5 = .ok (.invokevirtual 213, 3) := kq.at kqdX10_letter_0 3 rfl
theorem dX10_letter_8 : decode cX10_letter 8 = .ok (.ifCond .ne 9, 3) := kq.at kqdX10_letter_0 4 rfl
theorem dX10_letter_11 : decode cX10_letter 11 = .ok (.aload_n 0, 1) := kq.at kqdX10_letter_0 5 rfl
theorem dX10_letter_12 : decode cX10_letter 12 = .ok (.iconst 1, 1) := kq.at kqdX10_letter_0 6 rfl
theorem dX10_letter_13 : decode cX10_letter 13 = .ok (.invokevirtual 117, 3) := kq.at kqdX10_letter_0 7 rfl
theorem dX10_letter_16 : decode cX10_letter 16 = .ok (.ireturn, 1) := kq.at kqdX10_letter_0 8 rfl
theorem dX10_letter_17 : decode cX10_letter 17 = .ok (.iload_n 2, 1) := kq.at kqdX10_letter_0 9 rfl
theorem dX10_letter_18 : decode cX10_letter 18 = .ok (.ifCond .lt 16, 3) := kq.at kqdX10_letter_0 10 rfl
theorem dX10_letter_21 : decode cX10_letter 21 = .ok (.iload_n 2, 1) := kq.at kqdX10_letter_0 11 rfl
theorem dX10_letter_22 : decode cX10_letter 22 = .ok (.aload_n 0, 1) := kq.at kqdX10_letter_0 12 rfl
theorem dX10_letter_23 : decode cX10_letter 23 = .ok (.getfield 50, 3) := kq.at kqdX10_letter_0 13 rfl
theorem dX10_letter_26 : decode cX10_letter 26 = .ok (.getfield 216, 3) := kq.at kqdX10_letter_0 14 rfl
theorem dX10_letter_29 : decode cX10_letter 29 = .ok (.iload_n 1, 1) := kq.at kqdX10_letter_0 15 rfl
theorem dX10_letter_30 : decode cX10_letter 30 = .ok (.iaload, 1) := kq.at kqdX10_letter_0 16 rfl
theorem dX10_letter_31 : decode cX10_letter 31 = .ok (.if_icmp .lt 10, 3) := kq.at kqdX10_letter_0 17 rfl
theorem dX10_letter_34 : decode cX10_letter 34 = .ok (.aload_n 0, 1) := kq.at kqdX10_letter_0 18 rfl
theorem dX10_letter_35 : decode cX10_letter 35 = .ok (.bipush 6, 2) := kq.at kqdX10_letter_0 19 rfl
theorem dX10_letter_37 : decode cX10_letter 37 = .ok (.invokevirtual 117, 3) := kq.at kqdX10_letter_0 20 rfl
theorem dX10_letter_40 : decode cX10_letter 40 = .ok (.ireturn, 1) := kq.at kqdX10_letter_0 21 rfl
theorem dX10_letter_41 : decode cX10_letter 41 = .ok (.aload_n 0, 1) := kq.at kqdX10_letter_0 22 rfl
theorem dX10_letter_42 : decode cX10_letter 42 = .ok (.aload_n 0, 1) := kq.at kqdX10_letter_0 23 rfl
theorem kqdX10_letter_43 : kq cX10_letter [(43, .getfield 50, 3), (46, .iload_n 1, 1), (47, .iload_n 2, 1), (48, .invokevirtual 225, 3), (51, .invokevirtual 113, 3), (54, .ireturn, 1)] = true := by decide +kernel
theorem dX10_letter_43 : decode cX10_letter 43 = .ok (.getfield 50, 3) := kq.at kqdX10_letter_43 0 rfl
theorem dX10_letter_46 : decode cX10_letter 46 = .ok (.iload_n 1, 1) := kq.at kqdX10_letter_43 1 rfl
theorem dX10_letter_47 : decode cX10_letter 47 = .ok (.iload_n 2, 1) := kq.at kqdX10_letter_43 2 rfl
theorem dX10_letter_48 : decode cX10_letter 48 = .ok (.invokevirtual 225, 3) := kq.at kqdX10_letter_43 3 rfl
theorem dX10_letter_51 : decode cX10_letter 51 = .ok (.invokevirtual 113, 3) := kq.at kqdX10_letter_43 4 rfl
theorem dX10_letter_54 : decode cX10_letter 54 = .ok (.ireturn, 1) := kq.at kqdX10_letter_43 5 rfl
theorem kqdX10_cellOf_0 : kq cX10_cellOf [(0, .aload_n 0, 1), (1, .getfield 50, 3), (4, .iload_n 1, 1), (5, .invokevirtual 213, 3), (8, .ifCond .ne 9, 3), (11, .aload_n 0, 1), (12, .iconst 1, 1), (13, .invokevirtual 117, 3), (16, .ireturn, 1), (17, .iload_n 2, 1), (18, .ifCond .lt 16, 3), (21, .iload_n 2, 1), (22, .aload_n 0, 1), (23, .getfield 50, 3), (26, .getfield 219, 3), (29, .iload_n 1, 1), (30, .iaload, 1), (31, .if_icmp .lt 10, 3), (34, .aload_n 0, 1), (35, .bipush 6, 2), (37, .invokevirtual 117, 3), (40, .ireturn, 1), (41, .aload_n 0, 1), (42, .aload_n 0, 1)] = true := by decide +kernel
theorem dX10_cellOf_0 : decode cX10_cellOf 0 = .ok (.aload_n 0, 1) := kq.at kqdX10_cellOf_0 0 rfl
theorem dX10_cellOf_1 : decode cX10_cellOf 1 = .ok (.getfield 50, 3) := kq.at kqdX10_cellOf_0 1 rfl
theorem dX10_cellOf_4 : decode cX10_cellOf 4 = .ok (.iload_n 1, 1) := kq.at kqdX10_cellOf_0 2 rfl
theorem dX10_cellOf_5 : decode cX10_cellOf 5 = .ok (.invokevirtual 213, 3) := kq.at kqdX10_cellOf_0 3 rfl
theorem dX10_cellOf_8 : decode cX10_cellOf 8 = .ok (.ifCond .ne 9, 3) := kq.at kqdX10_cellOf_0 4 rfl
theorem dX10_cellOf_11 : decode cX10_cellOf 11 = .ok (.aload_n 0, 1) := kq.at kqdX10_cellOf_0 5 rfl
theorem dX10_cellOf_12 : decode cX10_cellOf 12 = .ok (.iconst 1, 1) := kq.at kqdX10_cellOf_0 6 rfl
theorem dX10_cellOf_13 : decode cX10_cellOf 13 = .ok (.invokevirtual 117, 3) := kq.at kqdX10_cellOf_0 7 rfl
theorem dX10_cellOf_16 : decode cX10_cellOf 16 = .ok (.ireturn, 1) := kq.at kqdX10_cellOf_0 8 rfl
theorem dX10_cellOf_17 : decode cX10_cellOf 17 = .ok (.iload_n 2, 1) := kq.at kqdX10_cellOf_0 9 rfl
theorem dX10_cellOf_18 : decode cX10_cellOf 18 = .ok (.ifCond .lt 16, 3) := kq.at kqdX10_cellOf_0 10 rfl
theorem dX10_cellOf_21 : decode cX10_cellOf 21 = .ok (.iload_n 2, 1) := kq.at kqdX10_cellOf_0 11 rfl
theorem dX10_cellOf_22 : decode cX10_cellOf 22 = .ok (.aload_n 0, 1) := kq.at kqdX10_cellOf_0 12 rfl
theorem dX10_cellOf_23 : decode cX10_cellOf 23 = .ok (.getfield 50, 3) := kq.at kqdX10_cellOf_0 13 rfl
theorem dX10_cellOf_26 : decode cX10_cellOf 26 = .ok (.getfield 219, 3) := kq.at kqdX10_cellOf_0 14 rfl
theorem dX10_cellOf_29 : decode cX10_cellOf 29 = .ok (.iload_n 1, 1) := kq.at kqdX10_cellOf_0 15 rfl
theorem dX10_cellOf_30 : decode cX10_cellOf 30 = .ok (.iaload, 1) := kq.at kqdX10_cellOf_0 16 rfl
theorem dX10_cellOf_31 : decode cX10_cellOf 31 = .ok (.if_icmp .lt 10, 3) := kq.at kqdX10_cellOf_0 17 rfl
theorem dX10_cellOf_34 : decode cX10_cellOf 34 = .ok (.aload_n 0, 1) := kq.at kqdX10_cellOf_0 18 rfl
theorem dX10_cellOf_35 : decode cX10_cellOf 35 = .ok (.bipush 6, 2) := kq.at kqdX10_cellOf_0 19 rfl
theorem dX10_cellOf_37 : decode cX10_cellOf 37 = .ok (.invokevirtual 117, 3) := kq.at kqdX10_cellOf_0 20 rfl
theorem dX10_cellOf_40 : decode cX10_cellOf 40 = .ok (.ireturn, 1) := kq.at kqdX10_cellOf_0 21 rfl
theorem dX10_cellOf_41 : decode cX10_cellOf 41 = .ok (.aload_n 0, 1) := kq.at kqdX10_cellOf_0 22 rfl
theorem dX10_cellOf_42 : decode cX10_cellOf 42 = .ok (.aload_n 0, 1) := kq.at kqdX10_cellOf_0 23 rfl
theorem kqdX10_cellOf_43 : kq cX10_cellOf [(43, .getfield 50, 3), (46, .iload_n 1, 1), (47, .iload_n 2, 1), (48, .invokevirtual 228, 3), (51, .invokevirtual 113, 3), (54, .ireturn, 1)] = true := by decide +kernel
theorem dX10_cellOf_43 : decode cX10_cellOf 43 = .ok (.getfield 50, 3) := kq.at kqdX10_cellOf_43 0 rfl
theorem dX10_cellOf_46 : decode cX10_cellOf 46 = .ok (.iload_n 1, 1) := kq.at kqdX10_cellOf_43 1 rfl
theorem dX10_cellOf_47 : decode cX10_cellOf 47 = .ok (.iload_n 2, 1) := kq.at kqdX10_cellOf_43 2 rfl
theorem dX10_cellOf_48 : decode cX10_cellOf 48 = .ok (.invokevirtual 228, 3) := kq.at kqdX10_cellOf_43 3 rfl
theorem dX10_cellOf_51 : decode cX10_cellOf 51 = .ok (.invokevirtual 113, 3) := kq.at kqdX10_cellOf_43 4 rfl
theorem dX10_cellOf_54 : decode cX10_cellOf 54 = .ok (.ireturn, 1) := kq.at kqdX10_cellOf_43 5 rfl
theorem kqdX10_drop_0 : kq cX10_drop [(0, .aload_n 0, 1), (1, .getfield 50, 3), (4, .iload_n 1, 1), (5, .invokevirtual 213, 3), (8, .ifCond .ne 9, 3), (11, .aload_n 0, 1), (12, .iconst 1, 1), (13, .invokevirtual 127, 3), (16, .ireturn, 1), (17, .iconst 1, 1), (18, .iload_n 1, 1), (19, .ishl, 1), (20, .istore_n 3, 1), (21, .aload_n 0, 1), (22, .getfield 50, 3), (25, .iload_n 2, 1), (26, .ifCond .eq 15, 3), (29, .aload_n 0, 1), (30, .getfield 50, 3), (33, .getfield 184, 3), (36, .iload_n 3, 1), (37, .ior, 1), (38, .goto 14, 3), (41, .aload_n 0, 1)] = true := by decide +kernel
theorem dX10_drop_0 : decode cX10_drop 0 = .ok (.aload_n 0, 1) := kq.at kqdX10_drop_0 0 rfl
theorem dX10_drop_1 : decode cX10_drop 1 = .ok (.getfield 50, 3) := kq.at kqdX10_drop_0 1 rfl
theorem dX10_drop_4 : decode cX10_drop 4 = .ok (.iload_n 1, 1) := kq.at kqdX10_drop_0 2 rfl
theorem dX10_drop_5 : decode cX10_drop 5 = .ok (.invokevirtual 213, 3) := kq.at kqdX10_drop_0 3 rfl
theorem dX10_drop_8 : decode cX10_drop 8 = .ok (.ifCond .ne 9, 3) := kq.at kqdX10_drop_0 4 rfl
theorem dX10_drop_11 : decode cX10_drop 11 = .ok (.aload_n 0, 1) := kq.at kqdX10_drop_0 5 rfl
theorem dX10_drop_12 : decode cX10_drop 12 = .ok (.iconst 1, 1) := kq.at kqdX10_drop_0 6 rfl
theorem dX10_drop_13 : decode cX10_drop 13 = .ok (.invokevirtual 127, 3) := kq.at kqdX10_drop_0 7 rfl
theorem dX10_drop_16 : decode cX10_drop 16 = .ok (.ireturn, 1) := kq.at kqdX10_drop_0 8 rfl
theorem dX10_drop_17 : decode cX10_drop 17 = .ok (.iconst 1, 1) := kq.at kqdX10_drop_0 9 rfl
theorem dX10_drop_18 : decode cX10_drop 18 = .ok (.iload_n 1, 1) := kq.at kqdX10_drop_0 10 rfl
theorem dX10_drop_19 : decode cX10_drop 19 = .ok (.ishl, 1) := kq.at kqdX10_drop_0 11 rfl
theorem dX10_drop_20 : decode cX10_drop 20 = .ok (.istore_n 3, 1) := kq.at kqdX10_drop_0 12 rfl
theorem dX10_drop_21 : decode cX10_drop 21 = .ok (.aload_n 0, 1) := kq.at kqdX10_drop_0 13 rfl
theorem dX10_drop_22 : decode cX10_drop 22 = .ok (.getfield 50, 3) := kq.at kqdX10_drop_0 14 rfl
theorem dX10_drop_25 : decode cX10_drop 25 = .ok (.iload_n 2, 1) := kq.at kqdX10_drop_0 15 rfl
theorem dX10_drop_26 : decode cX10_drop 26 = .ok (.ifCond .eq 15, 3) := kq.at kqdX10_drop_0 16 rfl
theorem dX10_drop_29 : decode cX10_drop 29 = .ok (.aload_n 0, 1) := kq.at kqdX10_drop_0 17 rfl
theorem dX10_drop_30 : decode cX10_drop 30 = .ok (.getfield 50, 3) := kq.at kqdX10_drop_0 18 rfl
theorem dX10_drop_33 : decode cX10_drop 33 = .ok (.getfield 184, 3) := kq.at kqdX10_drop_0 19 rfl
theorem dX10_drop_36 : decode cX10_drop 36 = .ok (.iload_n 3, 1) := kq.at kqdX10_drop_0 20 rfl
theorem dX10_drop_37 : decode cX10_drop 37 = .ok (.ior, 1) := kq.at kqdX10_drop_0 21 rfl
theorem dX10_drop_38 : decode cX10_drop 38 = .ok (.goto 14, 3) := kq.at kqdX10_drop_0 22 rfl
theorem dX10_drop_41 : decode cX10_drop 41 = .ok (.aload_n 0, 1) := kq.at kqdX10_drop_0 23 rfl
theorem kqdX10_drop_42 : kq cX10_drop [(42, .getfield 50, 3), (45, .getfield 184, 3), (48, .iload_n 3, 1), (49, .iconst (-1), 1), (50, .ixor, 1), (51, .iand, 1), (52, .putfield 184, 3), (55, .aload_n 0, 1), (56, .invokevirtual 134, 3), (59, .ireturn, 1)] = true := by decide +kernel
theorem dX10_drop_42 : decode cX10_drop 42 = .ok (.getfield 50, 3) := kq.at kqdX10_drop_42 0 rfl
theorem dX10_drop_45 : decode cX10_drop 45 = .ok (.getfield 184, 3) := kq.at kqdX10_drop_42 1 rfl
theorem dX10_drop_48 : decode cX10_drop 48 = .ok (.iload_n 3, 1) := kq.at kqdX10_drop_42 2 rfl
theorem dX10_drop_49 : decode cX10_drop 49 = .ok (.iconst (-1), 1) := kq.at kqdX10_drop_42 3 rfl
theorem dX10_drop_50 : decode cX10_drop 50 = .ok (.ixor, 1) := kq.at kqdX10_drop_42 4 rfl
theorem dX10_drop_51 : decode cX10_drop 51 = .ok (.iand, 1) := kq.at kqdX10_drop_42 5 rfl
theorem dX10_drop_52 : decode cX10_drop 52 = .ok (.putfield 184, 3) := kq.at kqdX10_drop_42 6 rfl
theorem dX10_drop_55 : decode cX10_drop 55 = .ok (.aload_n 0, 1) := kq.at kqdX10_drop_42 7 rfl
theorem dX10_drop_56 : decode cX10_drop 56 = .ok (.invokevirtual 134, 3) := kq.at kqdX10_drop_42 8 rfl
theorem dX10_drop_59 : decode cX10_drop 59 = .ok (.ireturn, 1) := kq.at kqdX10_drop_42 9 rfl
theorem kqdX10_reset_0 : kq cX10_reset [(0, .aload_n 0, 1), (1, .getfield 57, 3), (4, .invokevirtual 231, 3), (7, .ifCond .ne 10, 3), (10, .aload_n 0, 1), (11, .bipush 6, 2), (13, .invokevirtual 117, 3), (16, .ireturn, 1), (17, .aload_n 0, 1), (18, .getfield 72, 3), (21, .aload_n 0, 1), (22, .getfield 57, 3), (25, .getfield 234, 3), (28, .aload_n 0, 1), (29, .getfield 57, 3), (32, .getfield 237, 3), (35, .aload_n 0, 1), (36, .getfield 50, 3), (39, .aload_n 0, 1), (40, .getfield 50, 3), (43, .getfield 184, 3), (46, .invokevirtual 187, 3), (49, .ifCond .ne 10, 3), (52, .aload_n 0, 1)] = true := by decide +kernel
theorem dX10_reset_0 : decode cX10_reset 0 = .ok (.aload_n 0, 1) := kq.at kqdX10_reset_0 0 rfl
theorem dX10_reset_1 : decode cX10_reset 1 = .ok (.getfield 57, 3) := kq.at kqdX10_reset_0 1 rfl
theorem dX10_reset_4 : decode cX10_reset 4 = .ok (.invokevirtual 231, 3) := kq.at kqdX10_reset_0 2 rfl
theorem dX10_reset_7 : decode cX10_reset 7 = .ok (.ifCond .ne 10, 3) := kq.at kqdX10_reset_0 3 rfl
theorem dX10_reset_10 : decode cX10_reset 10 = .ok (.aload_n 0, 1) := kq.at kqdX10_reset_0 4 rfl
theorem dX10_reset_11 : decode cX10_reset 11 = .ok (.bipush 6, 2) := kq.at kqdX10_reset_0 5 rfl
theorem dX10_reset_13 : decode cX10_reset 13 = .ok (.invokevirtual 117, 3) := kq.at kqdX10_reset_0 6 rfl
theorem dX10_reset_16 : decode cX10_reset 16 = .ok (.ireturn, 1) := kq.at kqdX10_reset_0 7 rfl
theorem dX10_reset_17 : decode cX10_reset 17 = .ok (.aload_n 0, 1) := kq.at kqdX10_reset_0 8 rfl
theorem dX10_reset_18 : decode cX10_reset 18 = .ok (.getfield 72, 3) := kq.at kqdX10_reset_0 9 rfl
theorem dX10_reset_21 : decode cX10_reset 21 = .ok (.aload_n 0, 1) := kq.at kqdX10_reset_0 10 rfl
theorem dX10_reset_22 : decode cX10_reset 22 = .ok (.getfield 57, 3) := kq.at kqdX10_reset_0 11 rfl
theorem dX10_reset_25 : decode cX10_reset 25 = .ok (.getfield 234, 3) := kq.at kqdX10_reset_0 12 rfl
theorem dX10_reset_28 : decode cX10_reset 28 = .ok (.aload_n 0, 1) := kq.at kqdX10_reset_0 13 rfl
theorem dX10_reset_29 : decode cX10_reset 29 = .ok (.getfield 57, 3) := kq.at kqdX10_reset_0 14 rfl
theorem dX10_reset_32 : decode cX10_reset 32 = .ok (.getfield 237, 3) := kq.at kqdX10_reset_0 15 rfl
theorem dX10_reset_35 : decode cX10_reset 35 = .ok (.aload_n 0, 1) := kq.at kqdX10_reset_0 16 rfl
theorem dX10_reset_36 : decode cX10_reset 36 = .ok (.getfield 50, 3) := kq.at kqdX10_reset_0 17 rfl
theorem dX10_reset_39 : decode cX10_reset 39 = .ok (.aload_n 0, 1) := kq.at kqdX10_reset_0 18 rfl
theorem dX10_reset_40 : decode cX10_reset 40 = .ok (.getfield 50, 3) := kq.at kqdX10_reset_0 19 rfl
theorem dX10_reset_43 : decode cX10_reset 43 = .ok (.getfield 184, 3) := kq.at kqdX10_reset_0 20 rfl
theorem dX10_reset_46 : decode cX10_reset 46 = .ok (.invokevirtual 187, 3) := kq.at kqdX10_reset_0 21 rfl
theorem dX10_reset_49 : decode cX10_reset 49 = .ok (.ifCond .ne 10, 3) := kq.at kqdX10_reset_0 22 rfl
theorem dX10_reset_52 : decode cX10_reset 52 = .ok (.aload_n 0, 1) := kq.at kqdX10_reset_0 23 rfl
theorem kqdX10_reset_53 : kq cX10_reset [(53, .bipush 7, 2), (55, .invokevirtual 117, 3), (58, .ireturn, 1), (59, .aload_n 0, 1), (60, .invokevirtual 197, 3), (63, .aload_n 0, 1), (64, .aload_n 0, 1), (65, .getfield 68, 3), (68, .getfield 200, 3), (71, .invokevirtual 113, 3), (74, .ireturn, 1)] = true := by decide +kernel
theorem dX10_reset_53 : decode cX10_reset 53 = .ok (.bipush 7, 2) := kq.at kqdX10_reset_53 0 rfl
theorem dX10_reset_55 : decode cX10_reset 55 = .ok (.invokevirtual 117, 3) := kq.at kqdX10_reset_53 1 rfl
theorem dX10_reset_58 : decode cX10_reset 58 = .ok (.ireturn, 1) := kq.at kqdX10_reset_53 2 rfl
theorem dX10_reset_59 : decode cX10_reset 59 = .ok (.aload_n 0, 1) := kq.at kqdX10_reset_53 3 rfl
theorem dX10_reset_60 : decode cX10_reset 60 = .ok (.invokevirtual 197, 3) := kq.at kqdX10_reset_53 4 rfl
theorem dX10_reset_63 : decode cX10_reset 63 = .ok (.aload_n 0, 1) := kq.at kqdX10_reset_53 5 rfl
theorem dX10_reset_64 : decode cX10_reset 64 = .ok (.aload_n 0, 1) := kq.at kqdX10_reset_53 6 rfl
theorem dX10_reset_65 : decode cX10_reset 65 = .ok (.getfield 68, 3) := kq.at kqdX10_reset_53 7 rfl
theorem dX10_reset_68 : decode cX10_reset 68 = .ok (.getfield 200, 3) := kq.at kqdX10_reset_53 8 rfl
theorem dX10_reset_71 : decode cX10_reset 71 = .ok (.invokevirtual 113, 3) := kq.at kqdX10_reset_53 9 rfl
theorem dX10_reset_74 : decode cX10_reset 74 = .ok (.ireturn, 1) := kq.at kqdX10_reset_53 10 rfl
theorem kqdX10_size_0 : kq cX10_size [(0, .iload_n 1, 1), (1, .ifCond .lt 8, 3), (4, .iload_n 1, 1), (5, .iconst 4, 1), (6, .if_icmp .le 9, 3), (9, .aload_n 0, 1), (10, .iconst 1, 1), (11, .invokevirtual 117, 3), (14, .ireturn, 1), (15, .aload_n 0, 1), (16, .getfield 61, 3), (19, .ifCond .ne 10, 3), (22, .aload_n 0, 1), (23, .bipush 6, 2), (25, .invokevirtual 117, 3), (28, .ireturn, 1), (29, .iload_n 1, 1), (30, .tableswitch 75 0 3 #[30, 42, 54, 63], 30), (60, .aload_n 0, 1), (61, .aload_n 0, 1), (62, .getfield 68, 3), (65, .getfield 200, 3), (68, .invokevirtual 113, 3), (71, .ireturn, 1)] = true := by decide +kernel
theorem dX10_size_0 : decode cX10_size 0 = .ok (.iload_n 1, 1) := kq.at kqdX10_size_0 0 rfl
theorem dX10_size_1 : decode cX10_size 1 = .ok (.ifCond .lt 8, 3) := kq.at kqdX10_size_0 1 rfl
theorem dX10_size_4 : decode cX10_size 4 = .ok (.iload_n 1, 1) := kq.at kqdX10_size_0 2 rfl
theorem dX10_size_5 : decode cX10_size 5 = .ok (.iconst 4, 1) := kq.at kqdX10_size_0 3 rfl
theorem dX10_size_6 : decode cX10_size 6 = .ok (.if_icmp .le 9, 3) := kq.at kqdX10_size_0 4 rfl
theorem dX10_size_9 : decode cX10_size 9 = .ok (.aload_n 0, 1) := kq.at kqdX10_size_0 5 rfl
theorem dX10_size_10 : decode cX10_size 10 = .ok (.iconst 1, 1) := kq.at kqdX10_size_0 6 rfl
theorem dX10_size_11 : decode cX10_size 11 = .ok (.invokevirtual 117, 3) := kq.at kqdX10_size_0 7 rfl
theorem dX10_size_14 : decode cX10_size 14 = .ok (.ireturn, 1) := kq.at kqdX10_size_0 8 rfl
theorem dX10_size_15 : decode cX10_size 15 = .ok (.aload_n 0, 1) := kq.at kqdX10_size_0 9 rfl
theorem dX10_size_16 : decode cX10_size 16 = .ok (.getfield 61, 3) := kq.at kqdX10_size_0 10 rfl
theorem dX10_size_19 : decode cX10_size 19 = .ok (.ifCond .ne 10, 3) := kq.at kqdX10_size_0 11 rfl
theorem dX10_size_22 : decode cX10_size 22 = .ok (.aload_n 0, 1) := kq.at kqdX10_size_0 12 rfl
theorem dX10_size_23 : decode cX10_size 23 = .ok (.bipush 6, 2) := kq.at kqdX10_size_0 13 rfl
theorem dX10_size_25 : decode cX10_size 25 = .ok (.invokevirtual 117, 3) := kq.at kqdX10_size_0 14 rfl
theorem dX10_size_28 : decode cX10_size 28 = .ok (.ireturn, 1) := kq.at kqdX10_size_0 15 rfl
theorem dX10_size_29 : decode cX10_size 29 = .ok (.iload_n 1, 1) := kq.at kqdX10_size_0 16 rfl
theorem dX10_size_30 : decode cX10_size 30 = .ok (.tableswitch 75 0 3 #[30, 42, 54, 63], 30) := kq.at kqdX10_size_0 17 rfl
theorem dX10_size_60 : decode cX10_size 60 = .ok (.aload_n 0, 1) := kq.at kqdX10_size_0 18 rfl
theorem dX10_size_61 : decode cX10_size 61 = .ok (.aload_n 0, 1) := kq.at kqdX10_size_0 19 rfl
theorem dX10_size_62 : decode cX10_size 62 = .ok (.getfield 68, 3) := kq.at kqdX10_size_0 20 rfl
theorem dX10_size_65 : decode cX10_size 65 = .ok (.getfield 200, 3) := kq.at kqdX10_size_0 21 rfl
theorem dX10_size_68 : decode cX10_size 68 = .ok (.invokevirtual 113, 3) := kq.at kqdX10_size_0 22 rfl
theorem dX10_size_71 : decode cX10_size 71 = .ok (.ireturn, 1) := kq.at kqdX10_size_0 23 rfl
theorem kqdX10_size_72 : kq cX10_size [(72, .aload_n 0, 1), (73, .aload_n 0, 1), (74, .getfield 78, 3), (77, .getfield 238, 3), (80, .invokevirtual 113, 3), (83, .ireturn, 1), (84, .aload_n 0, 1), (85, .aload_n 0, 1), (86, .invokevirtual 241, 3), (89, .invokevirtual 113, 3), (92, .ireturn, 1), (93, .aload_n 0, 1), (94, .aload_n 0, 1), (95, .getfield 78, 3), (98, .getfield 245, 3), (101, .invokevirtual 113, 3), (104, .ireturn, 1), (105, .aload_n 0, 1), (106, .aload_n 0, 1), (107, .getfield 68, 3), (110, .invokevirtual 248, 3), (113, .invokevirtual 113, 3), (116, .ireturn, 1)] = true := by decide +kernel
theorem dX10_size_72 : decode cX10_size 72 = .ok (.aload_n 0, 1) := kq.at kqdX10_size_72 0 rfl
theorem dX10_size_73 : decode cX10_size 73 = .ok (.aload_n 0, 1) := kq.at kqdX10_size_72 1 rfl
theorem dX10_size_74 : decode cX10_size 74 = .ok (.getfield 78, 3) := kq.at kqdX10_size_72 2 rfl
theorem dX10_size_77 : decode cX10_size 77 = .ok (.getfield 238, 3) := kq.at kqdX10_size_72 3 rfl
theorem dX10_size_80 : decode cX10_size 80 = .ok (.invokevirtual 113, 3) := kq.at kqdX10_size_72 4 rfl
theorem dX10_size_83 : decode cX10_size 83 = .ok (.ireturn, 1) := kq.at kqdX10_size_72 5 rfl
theorem dX10_size_84 : decode cX10_size 84 = .ok (.aload_n 0, 1) := kq.at kqdX10_size_72 6 rfl
theorem dX10_size_85 : decode cX10_size 85 = .ok (.aload_n 0, 1) := kq.at kqdX10_size_72 7 rfl
theorem dX10_size_86 : decode cX10_size 86 = .ok (.invokevirtual 241, 3) := kq.at kqdX10_size_72 8 rfl
theorem dX10_size_89 : decode cX10_size 89 = .ok (.invokevirtual 113, 3) := kq.at kqdX10_size_72 9 rfl
theorem dX10_size_92 : decode cX10_size 92 = .ok (.ireturn, 1) := kq.at kqdX10_size_72 10 rfl
theorem dX10_size_93 : decode cX10_size 93 = .ok (.aload_n 0, 1) := kq.at kqdX10_size_72 11 rfl
theorem dX10_size_94 : decode cX10_size 94 = .ok (.aload_n 0, 1) := kq.at kqdX10_size_72 12 rfl
theorem dX10_size_95 : decode cX10_size 95 = .ok (.getfield 78, 3) := kq.at kqdX10_size_72 13 rfl
theorem dX10_size_98 : decode cX10_size 98 = .ok (.getfield 245, 3) := kq.at kqdX10_size_72 14 rfl
theorem dX10_size_101 : decode cX10_size 101 = .ok (.invokevirtual 113, 3) := kq.at kqdX10_size_72 15 rfl
theorem dX10_size_104 : decode cX10_size 104 = .ok (.ireturn, 1) := kq.at kqdX10_size_72 16 rfl
theorem dX10_size_105 : decode cX10_size 105 = .ok (.aload_n 0, 1) := kq.at kqdX10_size_72 17 rfl
theorem dX10_size_106 : decode cX10_size 106 = .ok (.aload_n 0, 1) := kq.at kqdX10_size_72 18 rfl
theorem dX10_size_107 : decode cX10_size 107 = .ok (.getfield 68, 3) := kq.at kqdX10_size_72 19 rfl
theorem dX10_size_110 : decode cX10_size 110 = .ok (.invokevirtual 248, 3) := kq.at kqdX10_size_72 20 rfl
theorem dX10_size_113 : decode cX10_size 113 = .ok (.invokevirtual 113, 3) := kq.at kqdX10_size_72 21 rfl
theorem dX10_size_116 : decode cX10_size 116 = .ok (.ireturn, 1) := kq.at kqdX10_size_72 22 rfl
theorem kqdX10_pages_0 : kq cX10_pages [(0, .iconst 1, 1), (1, .aload_n 0, 1), (2, .getfield 50, 3), (5, .getfield 206, 3), (8, .iconst 4, 1), (9, .iaload, 1), (10, .invokestatic 251, 3), (13, .istore_n 1, 1), (14, .aload_n 0, 1), (15, .getfield 78, 3), (18, .getfield 238, 3), (21, .iload_n 1, 1), (22, .iadd, 1), (23, .iconst 1, 1), (24, .isub, 1), (25, .iload_n 1, 1), (26, .idiv, 1), (27, .ireturn, 1)] = true := by decide +kernel
theorem dX10_pages_0 : decode cX10_pages 0 = .ok (.iconst 1, 1) := kq.at kqdX10_pages_0 0 rfl
theorem dX10_pages_1 : decode cX10_pages 1 = .ok (.aload_n 0, 1) := kq.at kqdX10_pages_0 1 rfl
theorem dX10_pages_2 : decode cX10_pages 2 = .ok (.getfield 50, 3) := kq.at kqdX10_pages_0 2 rfl
theorem dX10_pages_5 : decode cX10_pages 5 = .ok (.getfield 206, 3) := kq.at kqdX10_pages_0 3 rfl
theorem dX10_pages_8 : decode cX10_pages 8 = .ok (.iconst 4, 1) := kq.at kqdX10_pages_0 4 rfl
theorem dX10_pages_9 : decode cX10_pages 9 = .ok (.iaload, 1) := kq.at kqdX10_pages_0 5 rfl
theorem dX10_pages_10 : decode cX10_pages 10 = .ok (.invokestatic 251, 3) := kq.at kqdX10_pages_0 6 rfl
theorem dX10_pages_13 : decode cX10_pages 13 = .ok (.istore_n 1, 1) := kq.at kqdX10_pages_0 7 rfl
theorem dX10_pages_14 : decode cX10_pages 14 = .ok (.aload_n 0, 1) := kq.at kqdX10_pages_0 8 rfl
theorem dX10_pages_15 : decode cX10_pages 15 = .ok (.getfield 78, 3) := kq.at kqdX10_pages_0 9 rfl
theorem dX10_pages_18 : decode cX10_pages 18 = .ok (.getfield 238, 3) := kq.at kqdX10_pages_0 10 rfl
theorem dX10_pages_21 : decode cX10_pages 21 = .ok (.iload_n 1, 1) := kq.at kqdX10_pages_0 11 rfl
theorem dX10_pages_22 : decode cX10_pages 22 = .ok (.iadd, 1) := kq.at kqdX10_pages_0 12 rfl
theorem dX10_pages_23 : decode cX10_pages 23 = .ok (.iconst 1, 1) := kq.at kqdX10_pages_0 13 rfl
theorem dX10_pages_24 : decode cX10_pages 24 = .ok (.isub, 1) := kq.at kqdX10_pages_0 14 rfl
theorem dX10_pages_25 : decode cX10_pages 25 = .ok (.iload_n 1, 1) := kq.at kqdX10_pages_0 15 rfl
theorem dX10_pages_26 : decode cX10_pages 26 = .ok (.idiv, 1) := kq.at kqdX10_pages_0 16 rfl
theorem dX10_pages_27 : decode cX10_pages 27 = .ok (.ireturn, 1) := kq.at kqdX10_pages_0 17 rfl
theorem kqdX10_isSetCell_0 : kq cX10_isSetCell [(0, .aload_n 0, 1), (1, .getfield 61, 3), (4, .ifCond .eq 22, 3), (7, .iload_n 1, 1), (8, .ifCond .lt 18, 3), (11, .iload_n 1, 1), (12, .aload_n 0, 1), (13, .getfield 68, 3), (16, .getfield 200, 3), (19, .if_icmp .ge 7, 3), (22, .iconst 1, 1), (23, .goto 4, 3), (26, .iconst 0, 1), (27, .ireturn, 1)] = true := by decide +kernel
theorem dX10_isSetCell_0 : decode cX10_isSetCell 0 = .ok (.aload_n 0, 1) := kq.at kqdX10_isSetCell_0 0 rfl
theorem dX10_isSetCell_1 : decode cX10_isSetCell 1 = .ok (.getfield 61, 3) := kq.at kqdX10_isSetCell_0 1 rfl
theorem dX10_isSetCell_4 : decode cX10_isSetCell 4 = .ok (.ifCond .eq 22, 3) := kq.at kqdX10_isSetCell_0 2 rfl
theorem dX10_isSetCell_7 : decode cX10_isSetCell 7 = .ok (.iload_n 1, 1) := kq.at kqdX10_isSetCell_0 3 rfl
theorem dX10_isSetCell_8 : decode cX10_isSetCell 8 = .ok (.ifCond .lt 18, 3) := kq.at kqdX10_isSetCell_0 4 rfl
theorem dX10_isSetCell_11 : decode cX10_isSetCell 11 = .ok (.iload_n 1, 1) := kq.at kqdX10_isSetCell_0 5 rfl
theorem dX10_isSetCell_12 : decode cX10_isSetCell 12 = .ok (.aload_n 0, 1) := kq.at kqdX10_isSetCell_0 6 rfl
theorem dX10_isSetCell_13 : decode cX10_isSetCell 13 = .ok (.getfield 68, 3) := kq.at kqdX10_isSetCell_0 7 rfl
theorem dX10_isSetCell_16 : decode cX10_isSetCell 16 = .ok (.getfield 200, 3) := kq.at kqdX10_isSetCell_0 8 rfl
theorem dX10_isSetCell_19 : decode cX10_isSetCell 19 = .ok (.if_icmp .ge 7, 3) := kq.at kqdX10_isSetCell_0 9 rfl
theorem dX10_isSetCell_22 : decode cX10_isSetCell 22 = .ok (.iconst 1, 1) := kq.at kqdX10_isSetCell_0 10 rfl
theorem dX10_isSetCell_23 : decode cX10_isSetCell 23 = .ok (.goto 4, 3) := kq.at kqdX10_isSetCell_0 11 rfl
theorem dX10_isSetCell_26 : decode cX10_isSetCell 26 = .ok (.iconst 0, 1) := kq.at kqdX10_isSetCell_0 12 rfl
theorem dX10_isSetCell_27 : decode cX10_isSetCell 27 = .ok (.ireturn, 1) := kq.at kqdX10_isSetCell_0 13 rfl
theorem kqdX10_isLine_0 : kq cX10_isLine [(0, .aload_n 0, 1), (1, .getfield 61, 3), (4, .ifCond .eq 22, 3), (7, .iload_n 1, 1), (8, .ifCond .lt 18, 3), (11, .iload_n 1, 1), (12, .aload_n 0, 1), (13, .getfield 78, 3), (16, .getfield 238, 3), (19, .if_icmp .ge 7, 3), (22, .iconst 1, 1), (23, .goto 4, 3), (26, .iconst 0, 1), (27, .ireturn, 1)] = true := by decide +kernel
theorem dX10_isLine_0 : decode cX10_isLine 0 = .ok (.aload_n 0, 1) := kq.at kqdX10_isLine_0 0 rfl
theorem dX10_isLine_1 : decode cX10_isLine 1 = .ok (.getfield 61, 3) := kq.at kqdX10_isLine_0 1 rfl
theorem dX10_isLine_4 : decode cX10_isLine 4 = .ok (.ifCond .eq 22, 3) := kq.at kqdX10_isLine_0 2 rfl
theorem dX10_isLine_7 : decode cX10_isLine 7 = .ok (.iload_n 1, 1) := kq.at kqdX10_isLine_0 3 rfl
theorem dX10_isLine_8 : decode cX10_isLine 8 = .ok (.ifCond .lt 18, 3) := kq.at kqdX10_isLine_0 4 rfl
theorem dX10_isLine_11 : decode cX10_isLine 11 = .ok (.iload_n 1, 1) := kq.at kqdX10_isLine_0 5 rfl
theorem dX10_isLine_12 : decode cX10_isLine 12 = .ok (.aload_n 0, 1) := kq.at kqdX10_isLine_0 6 rfl
theorem dX10_isLine_13 : decode cX10_isLine 13 = .ok (.getfield 78, 3) := kq.at kqdX10_isLine_0 7 rfl
theorem dX10_isLine_16 : decode cX10_isLine 16 = .ok (.getfield 238, 3) := kq.at kqdX10_isLine_0 8 rfl
theorem dX10_isLine_19 : decode cX10_isLine 19 = .ok (.if_icmp .ge 7, 3) := kq.at kqdX10_isLine_0 9 rfl
theorem dX10_isLine_22 : decode cX10_isLine 22 = .ok (.iconst 1, 1) := kq.at kqdX10_isLine_0 10 rfl
theorem dX10_isLine_23 : decode cX10_isLine 23 = .ok (.goto 4, 3) := kq.at kqdX10_isLine_0 11 rfl
theorem dX10_isLine_26 : decode cX10_isLine 26 = .ok (.iconst 0, 1) := kq.at kqdX10_isLine_0 12 rfl
theorem dX10_isLine_27 : decode cX10_isLine 27 = .ok (.ireturn, 1) := kq.at kqdX10_isLine_0 13 rfl
theorem kqdX10_cell_0 : kq cX10_cell [(0, .aload_n 0, 1), (1, .iload_n 1, 1), (2, .invokevirtual 256, 3), (5, .ifCond .ne 10, 3), (8, .aload_n 0, 1), (9, .bipush 6, 2), (11, .invokevirtual 117, 3), (14, .ireturn, 1), (15, .aload_n 0, 1), (16, .aload_n 0, 1), (17, .getfield 68, 3), (20, .getfield 259, 3), (23, .iload_n 1, 1), (24, .iaload, 1), (25, .invokevirtual 113, 3), (28, .ireturn, 1)] = true := by decide +kernel
theorem dX10_cell_0 : decode cX10_cell 0 = .ok (.aload_n 0, 1) := kq.at kqdX10_cell_0 0 rfl
theorem dX10_cell_1 : decode cX10_cell 1 = .ok (.iload_n 1, 1) := kq.at kqdX10_cell_0 1 rfl
theorem dX10_cell_2 : decode cX10_cell 2 = .ok (.invokevirtual 256, 3) := kq.at kqdX10_cell_0 2 rfl
theorem dX10_cell_5 : decode cX10_cell 5 = .ok (.ifCond .ne 10, 3) := kq.at kqdX10_cell_0 3 rfl
theorem dX10_cell_8 : decode cX10_cell 8 = .ok (.aload_n 0, 1) := kq.at kqdX10_cell_0 4 rfl
theorem dX10_cell_9 : decode cX10_cell 9 = .ok (.bipush 6, 2) := kq.at kqdX10_cell_0 5 rfl
theorem dX10_cell_11 : decode cX10_cell 11 = .ok (.invokevirtual 117, 3) := kq.at kqdX10_cell_0 6 rfl
theorem dX10_cell_14 : decode cX10_cell 14 = .ok (.ireturn, 1) := kq.at kqdX10_cell_0 7 rfl
theorem dX10_cell_15 : decode cX10_cell 15 = .ok (.aload_n 0, 1) := kq.at kqdX10_cell_0 8 rfl
theorem dX10_cell_16 : decode cX10_cell 16 = .ok (.aload_n 0, 1) := kq.at kqdX10_cell_0 9 rfl
theorem dX10_cell_17 : decode cX10_cell 17 = .ok (.getfield 68, 3) := kq.at kqdX10_cell_0 10 rfl
theorem dX10_cell_20 : decode cX10_cell 20 = .ok (.getfield 259, 3) := kq.at kqdX10_cell_0 11 rfl
theorem dX10_cell_23 : decode cX10_cell 23 = .ok (.iload_n 1, 1) := kq.at kqdX10_cell_0 12 rfl
theorem dX10_cell_24 : decode cX10_cell 24 = .ok (.iaload, 1) := kq.at kqdX10_cell_0 13 rfl
theorem dX10_cell_25 : decode cX10_cell 25 = .ok (.invokevirtual 113, 3) := kq.at kqdX10_cell_0 14 rfl
theorem dX10_cell_28 : decode cX10_cell 28 = .ok (.ireturn, 1) := kq.at kqdX10_cell_0 15 rfl
theorem kqdX10_line_0 : kq cX10_line [(0, .aload_n 0, 1), (1, .iload_n 1, 1), (2, .invokevirtual 262, 3), (5, .ifCond .ne 10, 3), (8, .aload_n 0, 1), (9, .bipush 6, 2), (11, .invokevirtual 117, 3), (14, .ireturn, 1), (15, .aload_n 0, 1), (16, .aload_n 0, 1), (17, .getfield 78, 3), (20, .iload_n 1, 1), (21, .invokevirtual 265, 3), (24, .invokevirtual 113, 3), (27, .ireturn, 1)] = true := by decide +kernel
theorem dX10_line_0 : decode cX10_line 0 = .ok (.aload_n 0, 1) := kq.at kqdX10_line_0 0 rfl
theorem dX10_line_1 : decode cX10_line 1 = .ok (.iload_n 1, 1) := kq.at kqdX10_line_0 1 rfl
theorem dX10_line_2 : decode cX10_line 2 = .ok (.invokevirtual 262, 3) := kq.at kqdX10_line_0 2 rfl
theorem dX10_line_5 : decode cX10_line 5 = .ok (.ifCond .ne 10, 3) := kq.at kqdX10_line_0 3 rfl
theorem dX10_line_8 : decode cX10_line 8 = .ok (.aload_n 0, 1) := kq.at kqdX10_line_0 4 rfl
theorem dX10_line_9 : decode cX10_line 9 = .ok (.bipush 6, 2) := kq.at kqdX10_line_0 5 rfl
theorem dX10_line_11 : decode cX10_line 11 = .ok (.invokevirtual 117, 3) := kq.at kqdX10_line_0 6 rfl
theorem dX10_line_14 : decode cX10_line 14 = .ok (.ireturn, 1) := kq.at kqdX10_line_0 7 rfl
theorem dX10_line_15 : decode cX10_line 15 = .ok (.aload_n 0, 1) := kq.at kqdX10_line_0 8 rfl
theorem dX10_line_16 : decode cX10_line 16 = .ok (.aload_n 0, 1) := kq.at kqdX10_line_0 9 rfl
theorem dX10_line_17 : decode cX10_line 17 = .ok (.getfield 78, 3) := kq.at kqdX10_line_0 10 rfl
theorem dX10_line_20 : decode cX10_line 20 = .ok (.iload_n 1, 1) := kq.at kqdX10_line_0 11 rfl
theorem dX10_line_21 : decode cX10_line 21 = .ok (.invokevirtual 265, 3) := kq.at kqdX10_line_0 12 rfl
theorem dX10_line_24 : decode cX10_line 24 = .ok (.invokevirtual 113, 3) := kq.at kqdX10_line_0 13 rfl
theorem dX10_line_27 : decode cX10_line 27 = .ok (.ireturn, 1) := kq.at kqdX10_line_0 14 rfl
theorem kqdX10_lineAt_0 : kq cX10_lineAt [(0, .aload_n 0, 1), (1, .iload_n 1, 1), (2, .invokevirtual 262, 3), (5, .ifCond .eq 19, 3), (8, .iload_n 2, 1), (9, .ifCond .lt 15, 3), (12, .iload_n 2, 1), (13, .aload_n 0, 1), (14, .getfield 78, 3), (17, .iload_n 1, 1), (18, .invokevirtual 265, 3), (21, .if_icmp .lt 10, 3), (24, .aload_n 0, 1), (25, .bipush 6, 2), (27, .invokevirtual 117, 3), (30, .ireturn, 1), (31, .aload_n 0, 1), (32, .aload_n 0, 1), (33, .iload_n 1, 1), (34, .iload_n 2, 1), (35, .invokevirtual 268, 3), (38, .invokevirtual 113, 3), (41, .ireturn, 1)] = true := by decide +kernel
theorem dX10_lineAt_0 : decode cX10_lineAt 0 = .ok (.aload_n 0, 1) := kq.at kqdX10_lineAt_0 0 rfl
theorem dX10_lineAt_1 : decode cX10_lineAt 1 = .ok (.iload_n 1, 1) := kq.at kqdX10_lineAt_0 1 rfl
theorem dX10_lineAt_2 : decode cX10_lineAt 2 = .ok (.invokevirtual 262, 3) := kq.at kqdX10_lineAt_0 2 rfl
theorem dX10_lineAt_5 : decode cX10_lineAt 5 = .ok (.ifCond .eq 19, 3) := kq.at kqdX10_lineAt_0 3 rfl
theorem dX10_lineAt_8 : decode cX10_lineAt 8 = .ok (.iload_n 2, 1) := kq.at kqdX10_lineAt_0 4 rfl
theorem dX10_lineAt_9 : decode cX10_lineAt 9 = .ok (.ifCond .lt 15, 3) := kq.at kqdX10_lineAt_0 5 rfl
theorem dX10_lineAt_12 : decode cX10_lineAt 12 = .ok (.iload_n 2, 1) := kq.at kqdX10_lineAt_0 6 rfl
theorem dX10_lineAt_13 : decode cX10_lineAt 13 = .ok (.aload_n 0, 1) := kq.at kqdX10_lineAt_0 7 rfl
theorem dX10_lineAt_14 : decode cX10_lineAt 14 = .ok (.getfield 78, 3) := kq.at kqdX10_lineAt_0 8 rfl
theorem dX10_lineAt_17 : decode cX10_lineAt 17 = .ok (.iload_n 1, 1) := kq.at kqdX10_lineAt_0 9 rfl
theorem dX10_lineAt_18 : decode cX10_lineAt 18 = .ok (.invokevirtual 265, 3) := kq.at kqdX10_lineAt_0 10 rfl
theorem dX10_lineAt_21 : decode cX10_lineAt 21 = .ok (.if_icmp .lt 10, 3) := kq.at kqdX10_lineAt_0 11 rfl
theorem dX10_lineAt_24 : decode cX10_lineAt 24 = .ok (.aload_n 0, 1) := kq.at kqdX10_lineAt_0 12 rfl
theorem dX10_lineAt_25 : decode cX10_lineAt 25 = .ok (.bipush 6, 2) := kq.at kqdX10_lineAt_0 13 rfl
theorem dX10_lineAt_27 : decode cX10_lineAt 27 = .ok (.invokevirtual 117, 3) := kq.at kqdX10_lineAt_0 14 rfl
theorem dX10_lineAt_30 : decode cX10_lineAt 30 = .ok (.ireturn, 1) := kq.at kqdX10_lineAt_0 15 rfl
theorem dX10_lineAt_31 : decode cX10_lineAt 31 = .ok (.aload_n 0, 1) := kq.at kqdX10_lineAt_0 16 rfl
theorem dX10_lineAt_32 : decode cX10_lineAt 32 = .ok (.aload_n 0, 1) := kq.at kqdX10_lineAt_0 17 rfl
theorem dX10_lineAt_33 : decode cX10_lineAt 33 = .ok (.iload_n 1, 1) := kq.at kqdX10_lineAt_0 18 rfl
theorem dX10_lineAt_34 : decode cX10_lineAt 34 = .ok (.iload_n 2, 1) := kq.at kqdX10_lineAt_0 19 rfl
theorem dX10_lineAt_35 : decode cX10_lineAt 35 = .ok (.invokevirtual 268, 3) := kq.at kqdX10_lineAt_0 20 rfl
theorem dX10_lineAt_38 : decode cX10_lineAt 38 = .ok (.invokevirtual 113, 3) := kq.at kqdX10_lineAt_0 21 rfl
theorem dX10_lineAt_41 : decode cX10_lineAt 41 = .ok (.ireturn, 1) := kq.at kqdX10_lineAt_0 22 rfl
theorem kqdX10_cellInLine_0 : kq cX10_cellInLine [(0, .iload_n 2, 1), (1, .aload_n 0, 1), (2, .getfield 78, 3), (5, .getfield 271, 3), (8, .iload_n 1, 1), (9, .iaload, 1), (10, .if_icmp .ge 23, 3), (13, .aload_n 0, 1), (14, .getfield 68, 3), (17, .getfield 259, 3), (20, .aload_n 0, 1), (21, .getfield 78, 3), (24, .getfield 274, 3), (27, .iload_n 1, 1), (28, .iaload, 1), (29, .iload_n 2, 1), (30, .iadd, 1), (31, .iaload, 1), (32, .ireturn, 1), (33, .iload_n 2, 1), (34, .aload_n 0, 1), (35, .getfield 78, 3), (38, .iload_n 1, 1), (39, .invokevirtual 265, 3)] = true := by decide +kernel
theorem dX10_cellInLine_0 : decode cX10_cellInLine 0 = .ok (.iload_n 2, 1) := kq.at kqdX10_cellInLine_0 0 rfl
theorem dX10_cellInLine_1 : decode cX10_cellInLine 1 = .ok (.aload_n 0, 1) := kq.at kqdX10_cellInLine_0 1 rfl
theorem dX10_cellInLine_2 : decode cX10_cellInLine 2 = .ok (.getfield 78, 3) := kq.at kqdX10_cellInLine_0 2 rfl
theorem dX10_cellInLine_5 : decode cX10_cellInLine 5 = .ok (.getfield 271, 3) := kq.at kqdX10_cellInLine_0 3 rfl
theorem dX10_cellInLine_8 : decode cX10_cellInLine 8 = .ok (.iload_n 1, 1) := kq.at kqdX10_cellInLine_0 4 rfl
theorem dX10_cellInLine_9 : decode cX10_cellInLine 9 = .ok (.iaload, 1) := kq.at kqdX10_cellInLine_0 5 rfl
theorem dX10_cellInLine_10 : decode cX10_cellInLine 10 = .ok (.if_icmp .ge 23, 3) := kq.at kqdX10_cellInLine_0 6 rfl
theorem dX10_cellInLine_13 : decode cX10_cellInLine 13 = .ok (.aload_n 0, 1) := kq.at kqdX10_cellInLine_0 7 rfl
theorem dX10_cellInLine_14 : decode cX10_cellInLine 14 = .ok (.getfield 68, 3) := kq.at kqdX10_cellInLine_0 8 rfl
theorem dX10_cellInLine_17 : decode cX10_cellInLine 17 = .ok (.getfield 259, 3) := kq.at kqdX10_cellInLine_0 9 rfl
theorem dX10_cellInLine_20 : decode cX10_cellInLine 20 = .ok (.aload_n 0, 1) := kq.at kqdX10_cellInLine_0 10 rfl
theorem dX10_cellInLine_21 : decode cX10_cellInLine 21 = .ok (.getfield 78, 3) := kq.at kqdX10_cellInLine_0 11 rfl
theorem dX10_cellInLine_24 : decode cX10_cellInLine 24 = .ok (.getfield 274, 3) := kq.at kqdX10_cellInLine_0 12 rfl
theorem dX10_cellInLine_27 : decode cX10_cellInLine 27 = .ok (.iload_n 1, 1) := kq.at kqdX10_cellInLine_0 13 rfl
theorem dX10_cellInLine_28 : decode cX10_cellInLine 28 = .ok (.iaload, 1) := kq.at kqdX10_cellInLine_0 14 rfl
theorem dX10_cellInLine_29 : decode cX10_cellInLine 29 = .ok (.iload_n 2, 1) := kq.at kqdX10_cellInLine_0 15 rfl
theorem dX10_cellInLine_30 : decode cX10_cellInLine 30 = .ok (.iadd, 1) := kq.at kqdX10_cellInLine_0 16 rfl
theorem dX10_cellInLine_31 : decode cX10_cellInLine 31 = .ok (.iaload, 1) := kq.at kqdX10_cellInLine_0 17 rfl
theorem dX10_cellInLine_32 : decode cX10_cellInLine 32 = .ok (.ireturn, 1) := kq.at kqdX10_cellInLine_0 18 rfl
theorem dX10_cellInLine_33 : decode cX10_cellInLine 33 = .ok (.iload_n 2, 1) := kq.at kqdX10_cellInLine_0 19 rfl
theorem dX10_cellInLine_34 : decode cX10_cellInLine 34 = .ok (.aload_n 0, 1) := kq.at kqdX10_cellInLine_0 20 rfl
theorem dX10_cellInLine_35 : decode cX10_cellInLine 35 = .ok (.getfield 78, 3) := kq.at kqdX10_cellInLine_0 21 rfl
theorem dX10_cellInLine_38 : decode cX10_cellInLine 38 = .ok (.iload_n 1, 1) := kq.at kqdX10_cellInLine_0 22 rfl
theorem dX10_cellInLine_39 : decode cX10_cellInLine 39 = .ok (.invokevirtual 265, 3) := kq.at kqdX10_cellInLine_0 23 rfl
theorem kqdX10_cellInLine_42 : kq cX10_cellInLine [(42, .if_icmp .ge 15, 3), (45, .aload_n 0, 1), (46, .getfield 50, 3), (49, .getfield 206, 3), (52, .iconst 2, 1), (53, .iaload, 1), (54, .goto 4, 3), (57, .iconst 0, 1), (58, .ireturn, 1)] = true := by decide +kernel
theorem dX10_cellInLine_42 : decode cX10_cellInLine 42 = .ok (.if_icmp .ge 15, 3) := kq.at kqdX10_cellInLine_42 0 rfl
theorem dX10_cellInLine_45 : decode cX10_cellInLine 45 = .ok (.aload_n 0, 1) := kq.at kqdX10_cellInLine_42 1 rfl
theorem dX10_cellInLine_46 : decode cX10_cellInLine 46 = .ok (.getfield 50, 3) := kq.at kqdX10_cellInLine_42 2 rfl
theorem dX10_cellInLine_49 : decode cX10_cellInLine 49 = .ok (.getfield 206, 3) := kq.at kqdX10_cellInLine_42 3 rfl
theorem dX10_cellInLine_52 : decode cX10_cellInLine 52 = .ok (.iconst 2, 1) := kq.at kqdX10_cellInLine_42 4 rfl
theorem dX10_cellInLine_53 : decode cX10_cellInLine 53 = .ok (.iaload, 1) := kq.at kqdX10_cellInLine_42 5 rfl
theorem dX10_cellInLine_54 : decode cX10_cellInLine 54 = .ok (.goto 4, 3) := kq.at kqdX10_cellInLine_42 6 rfl
theorem dX10_cellInLine_57 : decode cX10_cellInLine 57 = .ok (.iconst 0, 1) := kq.at kqdX10_cellInLine_42 7 rfl
theorem dX10_cellInLine_58 : decode cX10_cellInLine 58 = .ok (.ireturn, 1) := kq.at kqdX10_cellInLine_42 8 rfl
theorem kqdX10_onPage_0 : kq cX10_onPage [(0, .aload_n 0, 1), (1, .getfield 50, 3), (4, .getfield 206, 3), (7, .iconst 4, 1), (8, .iaload, 1), (9, .istore 4, 2), (11, .iload_n 3, 1), (12, .ifCond .lt 26, 3), (15, .iload_n 3, 1), (16, .aload_n 0, 1), (17, .getfield 50, 3), (20, .getfield 206, 3), (23, .iconst 3, 1), (24, .iaload, 1), (25, .if_icmp .ge 13, 3), (28, .iload_n 2, 1), (29, .ifCond .lt 9, 3), (32, .iload_n 2, 1), (33, .iload 4, 2), (35, .if_icmp .lt 9, 3), (38, .aload_n 0, 1), (39, .iconst 1, 1), (40, .invokevirtual 117, 3), (43, .ireturn, 1)] = true := by decide +kernel
theorem dX10_onPage_0 : decode cX10_onPage 0 = .ok (.aload_n 0, 1) := kq.at kqdX10_onPage_0 0 rfl
theorem dX10_onPage_1 : decode cX10_onPage 1 = .ok (.getfield 50, 3) := kq.at kqdX10_onPage_0 1 rfl
theorem dX10_onPage_4 : decode cX10_onPage 4 = .ok (.getfield 206, 3) := kq.at kqdX10_onPage_0 2 rfl
theorem dX10_onPage_7 : decode cX10_onPage 7 = .ok (.iconst 4, 1) := kq.at kqdX10_onPage_0 3 rfl
theorem dX10_onPage_8 : decode cX10_onPage 8 = .ok (.iaload, 1) := kq.at kqdX10_onPage_0 4 rfl
theorem dX10_onPage_9 : decode cX10_onPage 9 = .ok (.istore 4, 2) := kq.at kqdX10_onPage_0 5 rfl
theorem dX10_onPage_11 : decode cX10_onPage 11 = .ok (.iload_n 3, 1) := kq.at kqdX10_onPage_0 6 rfl
theorem dX10_onPage_12 : decode cX10_onPage 12 = .ok (.ifCond .lt 26, 3) := kq.at kqdX10_onPage_0 7 rfl
theorem dX10_onPage_15 : decode cX10_onPage 15 = .ok (.iload_n 3, 1) := kq.at kqdX10_onPage_0 8 rfl
theorem dX10_onPage_16 : decode cX10_onPage 16 = .ok (.aload_n 0, 1) := kq.at kqdX10_onPage_0 9 rfl
theorem dX10_onPage_17 : decode cX10_onPage 17 = .ok (.getfield 50, 3) := kq.at kqdX10_onPage_0 10 rfl
theorem dX10_onPage_20 : decode cX10_onPage 20 = .ok (.getfield 206, 3) := kq.at kqdX10_onPage_0 11 rfl
theorem dX10_onPage_23 : decode cX10_onPage 23 = .ok (.iconst 3, 1) := kq.at kqdX10_onPage_0 12 rfl
theorem dX10_onPage_24 : decode cX10_onPage 24 = .ok (.iaload, 1) := kq.at kqdX10_onPage_0 13 rfl
theorem dX10_onPage_25 : decode cX10_onPage 25 = .ok (.if_icmp .ge 13, 3) := kq.at kqdX10_onPage_0 14 rfl
theorem dX10_onPage_28 : decode cX10_onPage 28 = .ok (.iload_n 2, 1) := kq.at kqdX10_onPage_0 15 rfl
theorem dX10_onPage_29 : decode cX10_onPage 29 = .ok (.ifCond .lt 9, 3) := kq.at kqdX10_onPage_0 16 rfl
theorem dX10_onPage_32 : decode cX10_onPage 32 = .ok (.iload_n 2, 1) := kq.at kqdX10_onPage_0 17 rfl
theorem dX10_onPage_33 : decode cX10_onPage 33 = .ok (.iload 4, 2) := kq.at kqdX10_onPage_0 18 rfl
theorem dX10_onPage_35 : decode cX10_onPage 35 = .ok (.if_icmp .lt 9, 3) := kq.at kqdX10_onPage_0 19 rfl
theorem dX10_onPage_38 : decode cX10_onPage 38 = .ok (.aload_n 0, 1) := kq.at kqdX10_onPage_0 20 rfl
theorem dX10_onPage_39 : decode cX10_onPage 39 = .ok (.iconst 1, 1) := kq.at kqdX10_onPage_0 21 rfl
theorem dX10_onPage_40 : decode cX10_onPage 40 = .ok (.invokevirtual 117, 3) := kq.at kqdX10_onPage_0 22 rfl
theorem dX10_onPage_43 : decode cX10_onPage 43 = .ok (.ireturn, 1) := kq.at kqdX10_onPage_0 23 rfl
theorem kqdX10_onPage_44 : kq cX10_onPage [(44, .aload_n 0, 1), (45, .getfield 61, 3), (48, .ifCond .eq 28, 3), (51, .iload_n 1, 1), (52, .ifCond .lt 24, 3), (55, .iload_n 1, 1), (56, .aload_n 0, 1), (57, .invokevirtual 241, 3), (60, .if_icmp .ge 16, 3), (63, .aload_n 0, 1), (64, .iload_n 1, 1), (65, .iload 4, 2), (67, .imul, 1), (68, .iload_n 2, 1), (69, .iadd, 1), (70, .invokevirtual 262, 3), (73, .ifCond .ne 10, 3), (76, .aload_n 0, 1), (77, .bipush 6, 2), (79, .invokevirtual 117, 3), (82, .ireturn, 1), (83, .aload_n 0, 1), (84, .aload_n 0, 1), (85, .iload_n 1, 1)] = true := by decide +kernel
theorem dX10_onPage_44 : decode cX10_onPage 44 = .ok (.aload_n 0, 1) := kq.at kqdX10_onPage_44 0 rfl
theorem dX10_onPage_45 : decode cX10_onPage 45 = .ok (.getfield 61, 3) := kq.at kqdX10_onPage_44 1 rfl
theorem dX10_onPage_48 : decode cX10_onPage 48 = .ok (.ifCond .eq 28, 3) := kq.at kqdX10_onPage_44 2 rfl
theorem dX10_onPage_51 : decode cX10_onPage 51 = .ok (.iload_n 1, 1) := kq.at kqdX10_onPage_44 3 rfl
theorem dX10_onPage_52 : decode cX10_onPage 52 = .ok (.ifCond .lt 24, 3) := kq.at kqdX10_onPage_44 4 rfl
theorem dX10_onPage_55 : decode cX10_onPage 55 = .ok (.iload_n 1, 1) := kq.at kqdX10_onPage_44 5 rfl
theorem dX10_onPage_56 : decode cX10_onPage 56 = .ok (.aload_n 0, 1) := kq.at kqdX10_onPage_44 6 rfl
theorem dX10_onPage_57 : decode cX10_onPage 57 = .ok (.invokevirtual 241, 3) := kq.at kqdX10_onPage_44 7 rfl
theorem dX10_onPage_60 : decode cX10_onPage 60 = .ok (.if_icmp .ge 16, 3) := kq.at kqdX10_onPage_44 8 rfl
theorem dX10_onPage_63 : decode cX10_onPage 63 = .ok (.aload_n 0, 1) := kq.at kqdX10_onPage_44 9 rfl
theorem dX10_onPage_64 : decode cX10_onPage 64 = .ok (.iload_n 1, 1) := kq.at kqdX10_onPage_44 10 rfl
theorem dX10_onPage_65 : decode cX10_onPage 65 = .ok (.iload 4, 2) := kq.at kqdX10_onPage_44 11 rfl
theorem dX10_onPage_67 : decode cX10_onPage 67 = .ok (.imul, 1) := kq.at kqdX10_onPage_44 12 rfl
theorem dX10_onPage_68 : decode cX10_onPage 68 = .ok (.iload_n 2, 1) := kq.at kqdX10_onPage_44 13 rfl
theorem dX10_onPage_69 : decode cX10_onPage 69 = .ok (.iadd, 1) := kq.at kqdX10_onPage_44 14 rfl
theorem dX10_onPage_70 : decode cX10_onPage 70 = .ok (.invokevirtual 262, 3) := kq.at kqdX10_onPage_44 15 rfl
theorem dX10_onPage_73 : decode cX10_onPage 73 = .ok (.ifCond .ne 10, 3) := kq.at kqdX10_onPage_44 16 rfl
theorem dX10_onPage_76 : decode cX10_onPage 76 = .ok (.aload_n 0, 1) := kq.at kqdX10_onPage_44 17 rfl
theorem dX10_onPage_77 : decode cX10_onPage 77 = .ok (.bipush 6, 2) := kq.at kqdX10_onPage_44 18 rfl
theorem dX10_onPage_79 : decode cX10_onPage 79 = .ok (.invokevirtual 117, 3) := kq.at kqdX10_onPage_44 19 rfl
theorem dX10_onPage_82 : decode cX10_onPage 82 = .ok (.ireturn, 1) := kq.at kqdX10_onPage_44 20 rfl
theorem dX10_onPage_83 : decode cX10_onPage 83 = .ok (.aload_n 0, 1) := kq.at kqdX10_onPage_44 21 rfl
theorem dX10_onPage_84 : decode cX10_onPage 84 = .ok (.aload_n 0, 1) := kq.at kqdX10_onPage_44 22 rfl
theorem dX10_onPage_85 : decode cX10_onPage 85 = .ok (.iload_n 1, 1) := kq.at kqdX10_onPage_44 23 rfl
theorem kqdX10_onPage_86 : kq cX10_onPage [(86, .iload 4, 2), (88, .imul, 1), (89, .iload_n 2, 1), (90, .iadd, 1), (91, .iload_n 3, 1), (92, .invokevirtual 268, 3), (95, .invokevirtual 113, 3), (98, .ireturn, 1)] = true := by decide +kernel
theorem dX10_onPage_86 : decode cX10_onPage 86 = .ok (.iload 4, 2) := kq.at kqdX10_onPage_86 0 rfl
theorem dX10_onPage_88 : decode cX10_onPage 88 = .ok (.imul, 1) := kq.at kqdX10_onPage_86 1 rfl
theorem dX10_onPage_89 : decode cX10_onPage 89 = .ok (.iload_n 2, 1) := kq.at kqdX10_onPage_86 2 rfl
theorem dX10_onPage_90 : decode cX10_onPage 90 = .ok (.iadd, 1) := kq.at kqdX10_onPage_86 3 rfl
theorem dX10_onPage_91 : decode cX10_onPage 91 = .ok (.iload_n 3, 1) := kq.at kqdX10_onPage_86 4 rfl
theorem dX10_onPage_92 : decode cX10_onPage 92 = .ok (.invokevirtual 268, 3) := kq.at kqdX10_onPage_86 5 rfl
theorem dX10_onPage_95 : decode cX10_onPage 95 = .ok (.invokevirtual 113, 3) := kq.at kqdX10_onPage_86 6 rfl
theorem dX10_onPage_98 : decode cX10_onPage 98 = .ok (.ireturn, 1) := kq.at kqdX10_onPage_86 7 rfl
theorem kqdX10_hyphens_0 : kq cX10_hyphens [(0, .aload_n 0, 1), (1, .aload_n 0, 1), (2, .getfield 61, 3), (5, .aload_n 0, 1), (6, .getfield 78, 3), (9, .invokevirtual 277, 3), (12, .bipush 6, 2), (14, .invokevirtual 209, 3), (17, .ireturn, 1)] = true := by decide +kernel
theorem dX10_hyphens_0 : decode cX10_hyphens 0 = .ok (.aload_n 0, 1) := kq.at kqdX10_hyphens_0 0 rfl
theorem dX10_hyphens_1 : decode cX10_hyphens 1 = .ok (.aload_n 0, 1) := kq.at kqdX10_hyphens_0 1 rfl
theorem dX10_hyphens_2 : decode cX10_hyphens 2 = .ok (.getfield 61, 3) := kq.at kqdX10_hyphens_0 2 rfl
theorem dX10_hyphens_5 : decode cX10_hyphens 5 = .ok (.aload_n 0, 1) := kq.at kqdX10_hyphens_0 3 rfl
theorem dX10_hyphens_6 : decode cX10_hyphens 6 = .ok (.getfield 78, 3) := kq.at kqdX10_hyphens_0 4 rfl
theorem dX10_hyphens_9 : decode cX10_hyphens 9 = .ok (.invokevirtual 277, 3) := kq.at kqdX10_hyphens_0 5 rfl
theorem dX10_hyphens_12 : decode cX10_hyphens 12 = .ok (.bipush 6, 2) := kq.at kqdX10_hyphens_0 6 rfl
theorem dX10_hyphens_14 : decode cX10_hyphens 14 = .ok (.invokevirtual 209, 3) := kq.at kqdX10_hyphens_0 7 rfl
theorem dX10_hyphens_17 : decode cX10_hyphens 17 = .ok (.ireturn, 1) := kq.at kqdX10_hyphens_0 8 rfl
theorem kqdX10_used_0 : kq cX10_used [(0, .aload_n 0, 1), (1, .getfield 50, 3), (4, .iload_n 1, 1), (5, .invokevirtual 213, 3), (8, .ifCond .ne 9, 3), (11, .aload_n 0, 1), (12, .iconst 1, 1), (13, .invokevirtual 117, 3), (16, .ireturn, 1), (17, .aload_n 0, 1), (18, .aload_n 0, 1), (19, .getfield 61, 3), (22, .aload_n 0, 1), (23, .getfield 68, 3), (26, .getfield 280, 3), (29, .iload_n 1, 1), (30, .iaload, 1), (31, .bipush 6, 2), (33, .invokevirtual 209, 3), (36, .ireturn, 1)] = true := by decide +kernel
theorem dX10_used_0 : decode cX10_used 0 = .ok (.aload_n 0, 1) := kq.at kqdX10_used_0 0 rfl
theorem dX10_used_1 : decode cX10_used 1 = .ok (.getfield 50, 3) := kq.at kqdX10_used_0 1 rfl
theorem dX10_used_4 : decode cX10_used 4 = .ok (.iload_n 1, 1) := kq.at kqdX10_used_0 2 rfl
theorem dX10_used_5 : decode cX10_used 5 = .ok (.invokevirtual 213, 3) := kq.at kqdX10_used_0 3 rfl
theorem dX10_used_8 : decode cX10_used 8 = .ok (.ifCond .ne 9, 3) := kq.at kqdX10_used_0 4 rfl
theorem dX10_used_11 : decode cX10_used 11 = .ok (.aload_n 0, 1) := kq.at kqdX10_used_0 5 rfl
theorem dX10_used_12 : decode cX10_used 12 = .ok (.iconst 1, 1) := kq.at kqdX10_used_0 6 rfl
theorem dX10_used_13 : decode cX10_used 13 = .ok (.invokevirtual 117, 3) := kq.at kqdX10_used_0 7 rfl
theorem dX10_used_16 : decode cX10_used 16 = .ok (.ireturn, 1) := kq.at kqdX10_used_0 8 rfl
theorem dX10_used_17 : decode cX10_used 17 = .ok (.aload_n 0, 1) := kq.at kqdX10_used_0 9 rfl
theorem dX10_used_18 : decode cX10_used 18 = .ok (.aload_n 0, 1) := kq.at kqdX10_used_0 10 rfl
theorem dX10_used_19 : decode cX10_used 19 = .ok (.getfield 61, 3) := kq.at kqdX10_used_0 11 rfl
theorem dX10_used_22 : decode cX10_used 22 = .ok (.aload_n 0, 1) := kq.at kqdX10_used_0 12 rfl
theorem dX10_used_23 : decode cX10_used 23 = .ok (.getfield 68, 3) := kq.at kqdX10_used_0 13 rfl
theorem dX10_used_26 : decode cX10_used 26 = .ok (.getfield 280, 3) := kq.at kqdX10_used_0 14 rfl
theorem dX10_used_29 : decode cX10_used 29 = .ok (.iload_n 1, 1) := kq.at kqdX10_used_0 15 rfl
theorem dX10_used_30 : decode cX10_used 30 = .ok (.iaload, 1) := kq.at kqdX10_used_0 16 rfl
theorem dX10_used_31 : decode cX10_used 31 = .ok (.bipush 6, 2) := kq.at kqdX10_used_0 17 rfl
theorem dX10_used_33 : decode cX10_used 33 = .ok (.invokevirtual 209, 3) := kq.at kqdX10_used_0 18 rfl
theorem dX10_used_36 : decode cX10_used 36 = .ok (.ireturn, 1) := kq.at kqdX10_used_0 19 rfl
theorem kqdX10_useless_0 : kq cX10_useless [(0, .aload_n 0, 1), (1, .getfield 61, 3), (4, .ifCond .ne 10, 3), (7, .aload_n 0, 1), (8, .bipush 6, 2), (10, .invokevirtual 117, 3), (13, .ireturn, 1), (14, .iconst 0, 1), (15, .istore_n 1, 1), (16, .iconst 0, 1), (17, .istore_n 2, 1), (18, .iload_n 2, 1), (19, .aload_n 0, 1), (20, .getfield 50, 3), (23, .getfield 181, 3), (26, .if_icmp .ge 38, 3), (29, .aload_n 0, 1), (30, .getfield 50, 3), (33, .iload_n 2, 1), (34, .invokevirtual 283, 3), (37, .ifCond .eq 21, 3), (40, .aload_n 0, 1), (41, .getfield 68, 3), (44, .getfield 280, 3)] = true := by decide +kernel
theorem dX10_useless_0 : decode cX10_useless 0 = .ok (.aload_n 0, 1) := kq.at kqdX10_useless_0 0 rfl
theorem dX10_useless_1 : decode cX10_useless 1 = .ok (.getfield 61, 3) := kq.at kqdX10_useless_0 1 rfl
theorem dX10_useless_4 : decode cX10_useless 4 = .ok (.ifCond .ne 10, 3) := kq.at kqdX10_useless_0 2 rfl
theorem dX10_useless_7 : decode cX10_useless 7 = .ok (.aload_n 0, 1) := kq.at kqdX10_useless_0 3 rfl
theorem dX10_useless_8 : decode cX10_useless 8 = .ok (.bipush 6, 2) := kq.at kqdX10_useless_0 4 rfl
theorem dX10_useless_10 : decode cX10_useless 10 = .ok (.invokevirtual 117, 3) := kq.at kqdX10_useless_0 5 rfl
theorem dX10_useless_13 : decode cX10_useless 13 = .ok (.ireturn, 1) := kq.at kqdX10_useless_0 6 rfl
theorem dX10_useless_14 : decode cX10_useless 14 = .ok (.iconst 0, 1) := kq.at kqdX10_useless_0 7 rfl
theorem dX10_useless_15 : decode cX10_useless 15 = .ok (.istore_n 1, 1) := kq.at kqdX10_useless_0 8 rfl
theorem dX10_useless_16 : decode cX10_useless 16 = .ok (.iconst 0, 1) := kq.at kqdX10_useless_0 9 rfl
theorem dX10_useless_17 : decode cX10_useless 17 = .ok (.istore_n 2, 1) := kq.at kqdX10_useless_0 10 rfl
theorem dX10_useless_18 : decode cX10_useless 18 = .ok (.iload_n 2, 1) := kq.at kqdX10_useless_0 11 rfl
theorem dX10_useless_19 : decode cX10_useless 19 = .ok (.aload_n 0, 1) := kq.at kqdX10_useless_0 12 rfl
theorem dX10_useless_20 : decode cX10_useless 20 = .ok (.getfield 50, 3) := kq.at kqdX10_useless_0 13 rfl
theorem dX10_useless_23 : decode cX10_useless 23 = .ok (.getfield 181, 3) := kq.at kqdX10_useless_0 14 rfl
theorem dX10_useless_26 : decode cX10_useless 26 = .ok (.if_icmp .ge 38, 3) := kq.at kqdX10_useless_0 15 rfl
theorem dX10_useless_29 : decode cX10_useless 29 = .ok (.aload_n 0, 1) := kq.at kqdX10_useless_0 16 rfl
theorem dX10_useless_30 : decode cX10_useless 30 = .ok (.getfield 50, 3) := kq.at kqdX10_useless_0 17 rfl
theorem dX10_useless_33 : decode cX10_useless 33 = .ok (.iload_n 2, 1) := kq.at kqdX10_useless_0 18 rfl
theorem dX10_useless_34 : decode cX10_useless 34 = .ok (.invokevirtual 283, 3) := kq.at kqdX10_useless_0 19 rfl
theorem dX10_useless_37 : decode cX10_useless 37 = .ok (.ifCond .eq 21, 3) := kq.at kqdX10_useless_0 20 rfl
theorem dX10_useless_40 : decode cX10_useless 40 = .ok (.aload_n 0, 1) := kq.at kqdX10_useless_0 21 rfl
theorem dX10_useless_41 : decode cX10_useless 41 = .ok (.getfield 68, 3) := kq.at kqdX10_useless_0 22 rfl
theorem dX10_useless_44 : decode cX10_useless 44 = .ok (.getfield 280, 3) := kq.at kqdX10_useless_0 23 rfl
theorem kqdX10_useless_47 : kq cX10_useless [(47, .iload_n 2, 1), (48, .iaload, 1), (49, .ifCond .ne 9, 3), (52, .iload_n 1, 1), (53, .iconst 1, 1), (54, .iload_n 2, 1), (55, .ishl, 1), (56, .ior, 1), (57, .istore_n 1, 1), (58, .iinc 2 1, 3), (61, .goto (-43), 3), (64, .aload_n 0, 1), (65, .iload_n 1, 1), (66, .invokevirtual 113, 3), (69, .ireturn, 1)] = true := by decide +kernel
theorem dX10_useless_47 : decode cX10_useless 47 = .ok (.iload_n 2, 1) := kq.at kqdX10_useless_47 0 rfl
theorem dX10_useless_48 : decode cX10_useless 48 = .ok (.iaload, 1) := kq.at kqdX10_useless_47 1 rfl
theorem dX10_useless_49 : decode cX10_useless 49 = .ok (.ifCond .ne 9, 3) := kq.at kqdX10_useless_47 2 rfl
theorem dX10_useless_52 : decode cX10_useless 52 = .ok (.iload_n 1, 1) := kq.at kqdX10_useless_47 3 rfl
theorem dX10_useless_53 : decode cX10_useless 53 = .ok (.iconst 1, 1) := kq.at kqdX10_useless_47 4 rfl
theorem dX10_useless_54 : decode cX10_useless 54 = .ok (.iload_n 2, 1) := kq.at kqdX10_useless_47 5 rfl
theorem dX10_useless_55 : decode cX10_useless 55 = .ok (.ishl, 1) := kq.at kqdX10_useless_47 6 rfl
theorem dX10_useless_56 : decode cX10_useless 56 = .ok (.ior, 1) := kq.at kqdX10_useless_47 7 rfl
theorem dX10_useless_57 : decode cX10_useless 57 = .ok (.istore_n 1, 1) := kq.at kqdX10_useless_47 8 rfl
theorem dX10_useless_58 : decode cX10_useless 58 = .ok (.iinc 2 1, 3) := kq.at kqdX10_useless_47 9 rfl
theorem dX10_useless_61 : decode cX10_useless 61 = .ok (.goto (-43), 3) := kq.at kqdX10_useless_47 10 rfl
theorem dX10_useless_64 : decode cX10_useless 64 = .ok (.aload_n 0, 1) := kq.at kqdX10_useless_47 11 rfl
theorem dX10_useless_65 : decode cX10_useless 65 = .ok (.iload_n 1, 1) := kq.at kqdX10_useless_47 12 rfl
theorem dX10_useless_66 : decode cX10_useless 66 = .ok (.invokevirtual 113, 3) := kq.at kqdX10_useless_47 13 rfl
theorem dX10_useless_69 : decode cX10_useless 69 = .ok (.ireturn, 1) := kq.at kqdX10_useless_47 14 rfl
theorem kqdX10_dots_0 : kq cX10_dots [(0, .aload_n 0, 1), (1, .getfield 61, 3), (4, .ifCond .ne 10, 3), (7, .aload_n 0, 1), (8, .bipush 6, 2), (10, .invokevirtual 117, 3), (13, .ireturn, 1), (14, .aload_n 0, 1), (15, .aload_n 0, 1), (16, .getfield 68, 3), (19, .iconst 0, 1), (20, .aload_n 0, 1), (21, .getfield 68, 3), (24, .getfield 200, 3), (27, .invokevirtual 285, 3), (30, .invokevirtual 113, 3), (33, .ireturn, 1)] = true := by decide +kernel
theorem dX10_dots_0 : decode cX10_dots 0 = .ok (.aload_n 0, 1) := kq.at kqdX10_dots_0 0 rfl
theorem dX10_dots_1 : decode cX10_dots 1 = .ok (.getfield 61, 3) := kq.at kqdX10_dots_0 1 rfl
theorem dX10_dots_4 : decode cX10_dots 4 = .ok (.ifCond .ne 10, 3) := kq.at kqdX10_dots_0 2 rfl
theorem dX10_dots_7 : decode cX10_dots 7 = .ok (.aload_n 0, 1) := kq.at kqdX10_dots_0 3 rfl
theorem dX10_dots_8 : decode cX10_dots 8 = .ok (.bipush 6, 2) := kq.at kqdX10_dots_0 4 rfl
theorem dX10_dots_10 : decode cX10_dots 10 = .ok (.invokevirtual 117, 3) := kq.at kqdX10_dots_0 5 rfl
theorem dX10_dots_13 : decode cX10_dots 13 = .ok (.ireturn, 1) := kq.at kqdX10_dots_0 6 rfl
theorem dX10_dots_14 : decode cX10_dots 14 = .ok (.aload_n 0, 1) := kq.at kqdX10_dots_0 7 rfl
theorem dX10_dots_15 : decode cX10_dots 15 = .ok (.aload_n 0, 1) := kq.at kqdX10_dots_0 8 rfl
theorem dX10_dots_16 : decode cX10_dots 16 = .ok (.getfield 68, 3) := kq.at kqdX10_dots_0 9 rfl
theorem dX10_dots_19 : decode cX10_dots 19 = .ok (.iconst 0, 1) := kq.at kqdX10_dots_0 10 rfl
theorem dX10_dots_20 : decode cX10_dots 20 = .ok (.aload_n 0, 1) := kq.at kqdX10_dots_0 11 rfl
theorem dX10_dots_21 : decode cX10_dots 21 = .ok (.getfield 68, 3) := kq.at kqdX10_dots_0 12 rfl
theorem dX10_dots_24 : decode cX10_dots 24 = .ok (.getfield 200, 3) := kq.at kqdX10_dots_0 13 rfl
theorem dX10_dots_27 : decode cX10_dots 27 = .ok (.invokevirtual 285, 3) := kq.at kqdX10_dots_0 14 rfl
theorem dX10_dots_30 : decode cX10_dots 30 = .ok (.invokevirtual 113, 3) := kq.at kqdX10_dots_0 15 rfl
theorem dX10_dots_33 : decode cX10_dots 33 = .ok (.ireturn, 1) := kq.at kqdX10_dots_0 16 rfl
theorem kqdX10_plain_0 : kq cX10_plain [(0, .aload_n 0, 1), (1, .getfield 61, 3), (4, .ifCond .ne 10, 3), (7, .aload_n 0, 1), (8, .bipush 6, 2), (10, .invokevirtual 117, 3), (13, .ireturn, 1), (14, .aload_n 0, 1), (15, .invokevirtual 288, 3), (18, .istore_n 1, 1), (19, .aload_n 0, 1), (20, .iload_n 1, 1), (21, .iconst (-1), 1), (22, .if_icmp .eq 7, 3), (25, .iconst 1, 1), (26, .goto 4, 3), (29, .iconst 0, 1), (30, .iload_n 1, 1), (31, .bipush 7, 2), (33, .invokevirtual 209, 3), (36, .ireturn, 1)] = true := by decide +kernel
theorem dX10_plain_0 : decode cX10_plain 0 = .ok (.aload_n 0, 1) := kq.at kqdX10_plain_0 0 rfl
theorem dX10_plain_1 : decode cX10_plain 1 = .ok (.getfield 61, 3) := kq.at kqdX10_plain_0 1 rfl
theorem dX10_plain_4 : decode cX10_plain 4 = .ok (.ifCond .ne 10, 3) := kq.at kqdX10_plain_0 2 rfl
theorem dX10_plain_7 : decode cX10_plain 7 = .ok (.aload_n 0, 1) := kq.at kqdX10_plain_0 3 rfl
theorem dX10_plain_8 : decode cX10_plain 8 = .ok (.bipush 6, 2) := kq.at kqdX10_plain_0 4 rfl
theorem dX10_plain_10 : decode cX10_plain 10 = .ok (.invokevirtual 117, 3) := kq.at kqdX10_plain_0 5 rfl
theorem dX10_plain_13 : decode cX10_plain 13 = .ok (.ireturn, 1) := kq.at kqdX10_plain_0 6 rfl
theorem dX10_plain_14 : decode cX10_plain 14 = .ok (.aload_n 0, 1) := kq.at kqdX10_plain_0 7 rfl
theorem dX10_plain_15 : decode cX10_plain 15 = .ok (.invokevirtual 288, 3) := kq.at kqdX10_plain_0 8 rfl
theorem dX10_plain_18 : decode cX10_plain 18 = .ok (.istore_n 1, 1) := kq.at kqdX10_plain_0 9 rfl
theorem dX10_plain_19 : decode cX10_plain 19 = .ok (.aload_n 0, 1) := kq.at kqdX10_plain_0 10 rfl
theorem dX10_plain_20 : decode cX10_plain 20 = .ok (.iload_n 1, 1) := kq.at kqdX10_plain_0 11 rfl
theorem dX10_plain_21 : decode cX10_plain 21 = .ok (.iconst (-1), 1) := kq.at kqdX10_plain_0 12 rfl
theorem dX10_plain_22 : decode cX10_plain 22 = .ok (.if_icmp .eq 7, 3) := kq.at kqdX10_plain_0 13 rfl
theorem dX10_plain_25 : decode cX10_plain 25 = .ok (.iconst 1, 1) := kq.at kqdX10_plain_0 14 rfl
theorem dX10_plain_26 : decode cX10_plain 26 = .ok (.goto 4, 3) := kq.at kqdX10_plain_0 15 rfl
theorem dX10_plain_29 : decode cX10_plain 29 = .ok (.iconst 0, 1) := kq.at kqdX10_plain_0 16 rfl
theorem dX10_plain_30 : decode cX10_plain 30 = .ok (.iload_n 1, 1) := kq.at kqdX10_plain_0 17 rfl
theorem dX10_plain_31 : decode cX10_plain 31 = .ok (.bipush 7, 2) := kq.at kqdX10_plain_0 18 rfl
theorem dX10_plain_33 : decode cX10_plain 33 = .ok (.invokevirtual 209, 3) := kq.at kqdX10_plain_0 19 rfl
theorem dX10_plain_36 : decode cX10_plain 36 = .ok (.ireturn, 1) := kq.at kqdX10_plain_0 20 rfl
theorem kqdX10_plainCells_0 : kq cX10_plainCells [(0, .aload_n 0, 1), (1, .getfield 57, 3), (4, .aload_n 0, 1), (5, .getfield 50, 3), (8, .invokevirtual 291, 3), (11, .istore_n 1, 1), (12, .iload_n 1, 1), (13, .iconst (-1), 1), (14, .if_icmp .ne 7, 3), (17, .iconst (-1), 1), (18, .goto 9, 3), (21, .iload_n 1, 1), (22, .aload_n 0, 1), (23, .invokevirtual 295, 3), (26, .iadd, 1), (27, .ireturn, 1)] = true := by decide +kernel
theorem dX10_plainCells_0 : decode cX10_plainCells 0 = .ok (.aload_n 0, 1) := kq.at kqdX10_plainCells_0 0 rfl
theorem dX10_plainCells_1 : decode cX10_plainCells 1 = .ok (.getfield 57, 3) := kq.at kqdX10_plainCells_0 1 rfl
theorem dX10_plainCells_4 : decode cX10_plainCells 4 = .ok (.aload_n 0, 1) := kq.at kqdX10_plainCells_0 2 rfl
theorem dX10_plainCells_5 : decode cX10_plainCells 5 = .ok (.getfield 50, 3) := kq.at kqdX10_plainCells_0 3 rfl
theorem dX10_plainCells_8 : decode cX10_plainCells 8 = .ok (.invokevirtual 291, 3) := kq.at kqdX10_plainCells_0 4 rfl
theorem dX10_plainCells_11 : decode cX10_plainCells 11 = .ok (.istore_n 1, 1) := kq.at kqdX10_plainCells_0 5 rfl
theorem dX10_plainCells_12 : decode cX10_plainCells 12 = .ok (.iload_n 1, 1) := kq.at kqdX10_plainCells_0 6 rfl
theorem dX10_plainCells_13 : decode cX10_plainCells 13 = .ok (.iconst (-1), 1) := kq.at kqdX10_plainCells_0 7 rfl
theorem dX10_plainCells_14 : decode cX10_plainCells 14 = .ok (.if_icmp .ne 7, 3) := kq.at kqdX10_plainCells_0 8 rfl
theorem dX10_plainCells_17 : decode cX10_plainCells 17 = .ok (.iconst (-1), 1) := kq.at kqdX10_plainCells_0 9 rfl
theorem dX10_plainCells_18 : decode cX10_plainCells 18 = .ok (.goto 9, 3) := kq.at kqdX10_plainCells_0 10 rfl
theorem dX10_plainCells_21 : decode cX10_plainCells 21 = .ok (.iload_n 1, 1) := kq.at kqdX10_plainCells_0 11 rfl
theorem dX10_plainCells_22 : decode cX10_plainCells 22 = .ok (.aload_n 0, 1) := kq.at kqdX10_plainCells_0 12 rfl
theorem dX10_plainCells_23 : decode cX10_plainCells 23 = .ok (.invokevirtual 295, 3) := kq.at kqdX10_plainCells_0 13 rfl
theorem dX10_plainCells_26 : decode cX10_plainCells 26 = .ok (.iadd, 1) := kq.at kqdX10_plainCells_0 14 rfl
theorem dX10_plainCells_27 : decode cX10_plainCells 27 = .ok (.ireturn, 1) := kq.at kqdX10_plainCells_0 15 rfl
theorem kqdX10_cellsBesideLetters_0 : kq cX10_cellsBesideLetters [(0, .aload_n 0, 1), (1, .getfield 68, 3), (4, .getfield 200, 3), (7, .aload_n 0, 1), (8, .getfield 68, 3), (11, .getfield 298, 3), (14, .isub, 1), (15, .ireturn, 1)] = true := by decide +kernel
theorem dX10_cellsBesideLetters_0 : decode cX10_cellsBesideLetters 0 = .ok (.aload_n 0, 1) := kq.at kqdX10_cellsBesideLetters_0 0 rfl
theorem dX10_cellsBesideLetters_1 : decode cX10_cellsBesideLetters 1 = .ok (.getfield 68, 3) := kq.at kqdX10_cellsBesideLetters_0 1 rfl
theorem dX10_cellsBesideLetters_4 : decode cX10_cellsBesideLetters 4 = .ok (.getfield 200, 3) := kq.at kqdX10_cellsBesideLetters_0 2 rfl
theorem dX10_cellsBesideLetters_7 : decode cX10_cellsBesideLetters 7 = .ok (.aload_n 0, 1) := kq.at kqdX10_cellsBesideLetters_0 3 rfl
theorem dX10_cellsBesideLetters_8 : decode cX10_cellsBesideLetters 8 = .ok (.getfield 68, 3) := kq.at kqdX10_cellsBesideLetters_0 4 rfl
theorem dX10_cellsBesideLetters_11 : decode cX10_cellsBesideLetters 11 = .ok (.getfield 298, 3) := kq.at kqdX10_cellsBesideLetters_0 5 rfl
theorem dX10_cellsBesideLetters_14 : decode cX10_cellsBesideLetters 14 = .ok (.isub, 1) := kq.at kqdX10_cellsBesideLetters_0 6 rfl
theorem dX10_cellsBesideLetters_15 : decode cX10_cellsBesideLetters 15 = .ok (.ireturn, 1) := kq.at kqdX10_cellsBesideLetters_0 7 rfl
theorem kqdX10_fewest_0 : kq cX10_fewest [(0, .aload_n 0, 1), (1, .getfield 61, 3), (4, .ifCond .ne 10, 3), (7, .aload_n 0, 1), (8, .bipush 6, 2), (10, .invokevirtual 117, 3), (13, .ireturn, 1), (14, .aload_n 0, 1), (15, .aload_n 0, 1), (16, .getfield 50, 3), (19, .getfield 184, 3), (22, .invokevirtual 301, 3), (25, .iconst (-1), 1), (26, .if_icmp .ne 10, 3), (29, .aload_n 0, 1), (30, .bipush 7, 2), (32, .invokevirtual 117, 3), (35, .ireturn, 1), (36, .aload_n 0, 1), (37, .aload_n 0, 1), (38, .getfield 57, 3), (41, .aload_n 0, 1), (42, .getfield 50, 3), (45, .invokevirtual 304, 3)] = true := by decide +kernel
theorem dX10_fewest_0 : decode cX10_fewest 0 = .ok (.aload_n 0, 1) := kq.at kqdX10_fewest_0 0 rfl
theorem dX10_fewest_1 : decode cX10_fewest 1 = .ok (.getfield 61, 3) := kq.at kqdX10_fewest_0 1 rfl
theorem dX10_fewest_4 : decode cX10_fewest 4 = .ok (.ifCond .ne 10, 3) := kq.at kqdX10_fewest_0 2 rfl
theorem dX10_fewest_7 : decode cX10_fewest 7 = .ok (.aload_n 0, 1) := kq.at kqdX10_fewest_0 3 rfl
theorem dX10_fewest_8 : decode cX10_fewest 8 = .ok (.bipush 6, 2) := kq.at kqdX10_fewest_0 4 rfl
theorem dX10_fewest_10 : decode cX10_fewest 10 = .ok (.invokevirtual 117, 3) := kq.at kqdX10_fewest_0 5 rfl
theorem dX10_fewest_13 : decode cX10_fewest 13 = .ok (.ireturn, 1) := kq.at kqdX10_fewest_0 6 rfl
theorem dX10_fewest_14 : decode cX10_fewest 14 = .ok (.aload_n 0, 1) := kq.at kqdX10_fewest_0 7 rfl
theorem dX10_fewest_15 : decode cX10_fewest 15 = .ok (.aload_n 0, 1) := kq.at kqdX10_fewest_0 8 rfl
theorem dX10_fewest_16 : decode cX10_fewest 16 = .ok (.getfield 50, 3) := kq.at kqdX10_fewest_0 9 rfl
theorem dX10_fewest_19 : decode cX10_fewest 19 = .ok (.getfield 184, 3) := kq.at kqdX10_fewest_0 10 rfl
theorem dX10_fewest_22 : decode cX10_fewest 22 = .ok (.invokevirtual 301, 3) := kq.at kqdX10_fewest_0 11 rfl
theorem dX10_fewest_25 : decode cX10_fewest 25 = .ok (.iconst (-1), 1) := kq.at kqdX10_fewest_0 12 rfl
theorem dX10_fewest_26 : decode cX10_fewest 26 = .ok (.if_icmp .ne 10, 3) := kq.at kqdX10_fewest_0 13 rfl
theorem dX10_fewest_29 : decode cX10_fewest 29 = .ok (.aload_n 0, 1) := kq.at kqdX10_fewest_0 14 rfl
theorem dX10_fewest_30 : decode cX10_fewest 30 = .ok (.bipush 7, 2) := kq.at kqdX10_fewest_0 15 rfl
theorem dX10_fewest_32 : decode cX10_fewest 32 = .ok (.invokevirtual 117, 3) := kq.at kqdX10_fewest_0 16 rfl
theorem dX10_fewest_35 : decode cX10_fewest 35 = .ok (.ireturn, 1) := kq.at kqdX10_fewest_0 17 rfl
theorem dX10_fewest_36 : decode cX10_fewest 36 = .ok (.aload_n 0, 1) := kq.at kqdX10_fewest_0 18 rfl
theorem dX10_fewest_37 : decode cX10_fewest 37 = .ok (.aload_n 0, 1) := kq.at kqdX10_fewest_0 19 rfl
theorem dX10_fewest_38 : decode cX10_fewest 38 = .ok (.getfield 57, 3) := kq.at kqdX10_fewest_0 20 rfl
theorem dX10_fewest_41 : decode cX10_fewest 41 = .ok (.aload_n 0, 1) := kq.at kqdX10_fewest_0 21 rfl
theorem dX10_fewest_42 : decode cX10_fewest 42 = .ok (.getfield 50, 3) := kq.at kqdX10_fewest_0 22 rfl
theorem dX10_fewest_45 : decode cX10_fewest 45 = .ok (.invokevirtual 304, 3) := kq.at kqdX10_fewest_0 23 rfl
theorem kqdX10_fewest_48 : kq cX10_fewest [(48, .aload_n 0, 1), (49, .invokevirtual 295, 3), (52, .iadd, 1), (53, .invokevirtual 113, 3), (56, .ireturn, 1)] = true := by decide +kernel
theorem dX10_fewest_48 : decode cX10_fewest 48 = .ok (.aload_n 0, 1) := kq.at kqdX10_fewest_48 0 rfl
theorem dX10_fewest_49 : decode cX10_fewest 49 = .ok (.invokevirtual 295, 3) := kq.at kqdX10_fewest_48 1 rfl
theorem dX10_fewest_52 : decode cX10_fewest 52 = .ok (.iadd, 1) := kq.at kqdX10_fewest_48 2 rfl
theorem dX10_fewest_53 : decode cX10_fewest 53 = .ok (.invokevirtual 113, 3) := kq.at kqdX10_fewest_48 3 rfl
theorem dX10_fewest_56 : decode cX10_fewest 56 = .ok (.ireturn, 1) := kq.at kqdX10_fewest_48 4 rfl
theorem kqdX10_cellsWith_0 : kq cX10_cellsWith [(0, .aload_n 0, 1), (1, .getfield 72, 3), (4, .aload_n 0, 1), (5, .getfield 57, 3), (8, .getfield 234, 3), (11, .aload_n 0, 1), (12, .getfield 57, 3), (15, .getfield 237, 3), (18, .aload_n 0, 1), (19, .getfield 50, 3), (22, .iload_n 1, 1), (23, .invokevirtual 187, 3), (26, .ifCond .eq 13, 3), (29, .aload_n 0, 1), (30, .getfield 72, 3), (33, .getfield 200, 3), (36, .goto 4, 3), (39, .iconst (-1), 1), (40, .ireturn, 1)] = true := by decide +kernel
theorem dX10_cellsWith_0 : decode cX10_cellsWith 0 = .ok (.aload_n 0, 1) := kq.at kqdX10_cellsWith_0 0 rfl
theorem dX10_cellsWith_1 : decode cX10_cellsWith 1 = .ok (.getfield 72, 3) := kq.at kqdX10_cellsWith_0 1 rfl
theorem dX10_cellsWith_4 : decode cX10_cellsWith 4 = .ok (.aload_n 0, 1) := kq.at kqdX10_cellsWith_0 2 rfl
theorem dX10_cellsWith_5 : decode cX10_cellsWith 5 = .ok (.getfield 57, 3) := kq.at kqdX10_cellsWith_0 3 rfl
theorem dX10_cellsWith_8 : decode cX10_cellsWith 8 = .ok (.getfield 234, 3) := kq.at kqdX10_cellsWith_0 4 rfl
theorem dX10_cellsWith_11 : decode cX10_cellsWith 11 = .ok (.aload_n 0, 1) := kq.at kqdX10_cellsWith_0 5 rfl
theorem dX10_cellsWith_12 : decode cX10_cellsWith 12 = .ok (.getfield 57, 3) := kq.at kqdX10_cellsWith_0 6 rfl
theorem dX10_cellsWith_15 : decode cX10_cellsWith 15 = .ok (.getfield 237, 3) := kq.at kqdX10_cellsWith_0 7 rfl
theorem dX10_cellsWith_18 : decode cX10_cellsWith 18 = .ok (.aload_n 0, 1) := kq.at kqdX10_cellsWith_0 8 rfl
theorem dX10_cellsWith_19 : decode cX10_cellsWith 19 = .ok (.getfield 50, 3) := kq.at kqdX10_cellsWith_0 9 rfl
theorem dX10_cellsWith_22 : decode cX10_cellsWith 22 = .ok (.iload_n 1, 1) := kq.at kqdX10_cellsWith_0 10 rfl
theorem dX10_cellsWith_23 : decode cX10_cellsWith 23 = .ok (.invokevirtual 187, 3) := kq.at kqdX10_cellsWith_0 11 rfl
theorem dX10_cellsWith_26 : decode cX10_cellsWith 26 = .ok (.ifCond .eq 13, 3) := kq.at kqdX10_cellsWith_0 12 rfl
theorem dX10_cellsWith_29 : decode cX10_cellsWith 29 = .ok (.aload_n 0, 1) := kq.at kqdX10_cellsWith_0 13 rfl
theorem dX10_cellsWith_30 : decode cX10_cellsWith 30 = .ok (.getfield 72, 3) := kq.at kqdX10_cellsWith_0 14 rfl
theorem dX10_cellsWith_33 : decode cX10_cellsWith 33 = .ok (.getfield 200, 3) := kq.at kqdX10_cellsWith_0 15 rfl
theorem dX10_cellsWith_36 : decode cX10_cellsWith 36 = .ok (.goto 4, 3) := kq.at kqdX10_cellsWith_0 16 rfl
theorem dX10_cellsWith_39 : decode cX10_cellsWith 39 = .ok (.iconst (-1), 1) := kq.at kqdX10_cellsWith_0 17 rfl
theorem dX10_cellsWith_40 : decode cX10_cellsWith 40 = .ok (.ireturn, 1) := kq.at kqdX10_cellsWith_0 18 rfl
theorem kqdX10_saving_0 : kq cX10_saving [(0, .aload_n 0, 1), (1, .getfield 50, 3), (4, .iload_n 1, 1), (5, .invokevirtual 213, 3), (8, .ifCond .ne 9, 3), (11, .aload_n 0, 1), (12, .iconst 1, 1), (13, .invokevirtual 117, 3), (16, .ireturn, 1), (17, .aload_n 0, 1), (18, .getfield 61, 3), (21, .ifCond .ne 10, 3), (24, .aload_n 0, 1), (25, .bipush 6, 2), (27, .invokevirtual 117, 3), (30, .ireturn, 1), (31, .aload_n 0, 1), (32, .aload_n 0, 1), (33, .getfield 50, 3), (36, .getfield 184, 3), (39, .invokevirtual 301, 3), (42, .istore_n 2, 1), (43, .iload_n 2, 1), (44, .iconst (-1), 1)] = true := by decide +kernel
theorem dX10_saving_0 : decode cX10_saving 0 = .ok (.aload_n 0, 1) := kq.at kqdX10_saving_0 0 rfl
theorem dX10_saving_1 : decode cX10_saving 1 = .ok (.getfield 50, 3) := kq.at kqdX10_saving_0 1 rfl
theorem dX10_saving_4 : decode cX10_saving 4 = .ok (.iload_n 1, 1) := kq.at kqdX10_saving_0 2 rfl
theorem dX10_saving_5 : decode cX10_saving 5 = .ok (.invokevirtual 213, 3) := kq.at kqdX10_saving_0 3 rfl
theorem dX10_saving_8 : decode cX10_saving 8 = .ok (.ifCond .ne 9, 3) := kq.at kqdX10_saving_0 4 rfl
theorem dX10_saving_11 : decode cX10_saving 11 = .ok (.aload_n 0, 1) := kq.at kqdX10_saving_0 5 rfl
theorem dX10_saving_12 : decode cX10_saving 12 = .ok (.iconst 1, 1) := kq.at kqdX10_saving_0 6 rfl
theorem dX10_saving_13 : decode cX10_saving 13 = .ok (.invokevirtual 117, 3) := kq.at kqdX10_saving_0 7 rfl
theorem dX10_saving_16 : decode cX10_saving 16 = .ok (.ireturn, 1) := kq.at kqdX10_saving_0 8 rfl
theorem dX10_saving_17 : decode cX10_saving 17 = .ok (.aload_n 0, 1) := kq.at kqdX10_saving_0 9 rfl
theorem dX10_saving_18 : decode cX10_saving 18 = .ok (.getfield 61, 3) := kq.at kqdX10_saving_0 10 rfl
theorem dX10_saving_21 : decode cX10_saving 21 = .ok (.ifCond .ne 10, 3) := kq.at kqdX10_saving_0 11 rfl
theorem dX10_saving_24 : decode cX10_saving 24 = .ok (.aload_n 0, 1) := kq.at kqdX10_saving_0 12 rfl
theorem dX10_saving_25 : decode cX10_saving 25 = .ok (.bipush 6, 2) := kq.at kqdX10_saving_0 13 rfl
theorem dX10_saving_27 : decode cX10_saving 27 = .ok (.invokevirtual 117, 3) := kq.at kqdX10_saving_0 14 rfl
theorem dX10_saving_30 : decode cX10_saving 30 = .ok (.ireturn, 1) := kq.at kqdX10_saving_0 15 rfl
theorem dX10_saving_31 : decode cX10_saving 31 = .ok (.aload_n 0, 1) := kq.at kqdX10_saving_0 16 rfl
theorem dX10_saving_32 : decode cX10_saving 32 = .ok (.aload_n 0, 1) := kq.at kqdX10_saving_0 17 rfl
theorem dX10_saving_33 : decode cX10_saving 33 = .ok (.getfield 50, 3) := kq.at kqdX10_saving_0 18 rfl
theorem dX10_saving_36 : decode cX10_saving 36 = .ok (.getfield 184, 3) := kq.at kqdX10_saving_0 19 rfl
theorem dX10_saving_39 : decode cX10_saving 39 = .ok (.invokevirtual 301, 3) := kq.at kqdX10_saving_0 20 rfl
theorem dX10_saving_42 : decode cX10_saving 42 = .ok (.istore_n 2, 1) := kq.at kqdX10_saving_0 21 rfl
theorem dX10_saving_43 : decode cX10_saving 43 = .ok (.iload_n 2, 1) := kq.at kqdX10_saving_0 22 rfl
theorem dX10_saving_44 : decode cX10_saving 44 = .ok (.iconst (-1), 1) := kq.at kqdX10_saving_0 23 rfl
theorem kqdX10_saving_45 : kq cX10_saving [(45, .if_icmp .ne 10, 3), (48, .aload_n 0, 1), (49, .bipush 7, 2), (51, .invokevirtual 117, 3), (54, .ireturn, 1), (55, .aload_n 0, 1), (56, .aload_n 0, 1), (57, .getfield 50, 3), (60, .getfield 184, 3), (63, .iconst 1, 1), (64, .iload_n 1, 1), (65, .ishl, 1), (66, .ior, 1), (67, .invokevirtual 301, 3), (70, .istore_n 3, 1), (71, .aload_n 0, 1), (72, .iload_n 3, 1), (73, .iconst (-1), 1), (74, .if_icmp .eq 7, 3), (77, .iconst 1, 1), (78, .goto 4, 3), (81, .iconst 0, 1), (82, .iload_n 3, 1), (83, .iload_n 2, 1)] = true := by decide +kernel
theorem dX10_saving_45 : decode cX10_saving 45 = .ok (.if_icmp .ne 10, 3) := kq.at kqdX10_saving_45 0 rfl
theorem dX10_saving_48 : decode cX10_saving 48 = .ok (.aload_n 0, 1) := kq.at kqdX10_saving_45 1 rfl
theorem dX10_saving_49 : decode cX10_saving 49 = .ok (.bipush 7, 2) := kq.at kqdX10_saving_45 2 rfl
theorem dX10_saving_51 : decode cX10_saving 51 = .ok (.invokevirtual 117, 3) := kq.at kqdX10_saving_45 3 rfl
theorem dX10_saving_54 : decode cX10_saving 54 = .ok (.ireturn, 1) := kq.at kqdX10_saving_45 4 rfl
theorem dX10_saving_55 : decode cX10_saving 55 = .ok (.aload_n 0, 1) := kq.at kqdX10_saving_45 5 rfl
theorem dX10_saving_56 : decode cX10_saving 56 = .ok (.aload_n 0, 1) := kq.at kqdX10_saving_45 6 rfl
theorem dX10_saving_57 : decode cX10_saving 57 = .ok (.getfield 50, 3) := kq.at kqdX10_saving_45 7 rfl
theorem dX10_saving_60 : decode cX10_saving 60 = .ok (.getfield 184, 3) := kq.at kqdX10_saving_45 8 rfl
theorem dX10_saving_63 : decode cX10_saving 63 = .ok (.iconst 1, 1) := kq.at kqdX10_saving_45 9 rfl
theorem dX10_saving_64 : decode cX10_saving 64 = .ok (.iload_n 1, 1) := kq.at kqdX10_saving_45 10 rfl
theorem dX10_saving_65 : decode cX10_saving 65 = .ok (.ishl, 1) := kq.at kqdX10_saving_45 11 rfl
theorem dX10_saving_66 : decode cX10_saving 66 = .ok (.ior, 1) := kq.at kqdX10_saving_45 12 rfl
theorem dX10_saving_67 : decode cX10_saving 67 = .ok (.invokevirtual 301, 3) := kq.at kqdX10_saving_45 13 rfl
theorem dX10_saving_70 : decode cX10_saving 70 = .ok (.istore_n 3, 1) := kq.at kqdX10_saving_45 14 rfl
theorem dX10_saving_71 : decode cX10_saving 71 = .ok (.aload_n 0, 1) := kq.at kqdX10_saving_45 15 rfl
theorem dX10_saving_72 : decode cX10_saving 72 = .ok (.iload_n 3, 1) := kq.at kqdX10_saving_45 16 rfl
theorem dX10_saving_73 : decode cX10_saving 73 = .ok (.iconst (-1), 1) := kq.at kqdX10_saving_45 17 rfl
theorem dX10_saving_74 : decode cX10_saving 74 = .ok (.if_icmp .eq 7, 3) := kq.at kqdX10_saving_45 18 rfl
theorem dX10_saving_77 : decode cX10_saving 77 = .ok (.iconst 1, 1) := kq.at kqdX10_saving_45 19 rfl
theorem dX10_saving_78 : decode cX10_saving 78 = .ok (.goto 4, 3) := kq.at kqdX10_saving_45 20 rfl
theorem dX10_saving_81 : decode cX10_saving 81 = .ok (.iconst 0, 1) := kq.at kqdX10_saving_45 21 rfl
theorem dX10_saving_82 : decode cX10_saving 82 = .ok (.iload_n 3, 1) := kq.at kqdX10_saving_45 22 rfl
theorem dX10_saving_83 : decode cX10_saving 83 = .ok (.iload_n 2, 1) := kq.at kqdX10_saving_45 23 rfl
theorem kqdX10_saving_84 : kq cX10_saving [(84, .isub, 1), (85, .bipush 7, 2), (87, .invokevirtual 209, 3), (90, .ireturn, 1)] = true := by decide +kernel
theorem dX10_saving_84 : decode cX10_saving 84 = .ok (.isub, 1) := kq.at kqdX10_saving_84 0 rfl
theorem dX10_saving_85 : decode cX10_saving 85 = .ok (.bipush 7, 2) := kq.at kqdX10_saving_84 1 rfl
theorem dX10_saving_87 : decode cX10_saving 87 = .ok (.invokevirtual 209, 3) := kq.at kqdX10_saving_84 2 rfl
theorem dX10_saving_90 : decode cX10_saving 90 = .ok (.ireturn, 1) := kq.at kqdX10_saving_84 3 rfl
theorem kqdX10_cheapest_0 : kq cX10_cheapest [(0, .aload_n 0, 1), (1, .getfield 61, 3), (4, .ifCond .ne 10, 3), (7, .aload_n 0, 1), (8, .bipush 6, 2), (10, .invokevirtual 117, 3), (13, .ireturn, 1), (14, .iconst (-1), 1), (15, .istore_n 1, 1), (16, .iconst 0, 1), (17, .istore_n 2, 1), (18, .iconst 0, 1), (19, .istore_n 3, 1), (20, .iload_n 3, 1), (21, .aload_n 0, 1), (22, .getfield 50, 3), (25, .getfield 181, 3), (28, .if_icmp .ge 63, 3), (31, .aload_n 0, 1), (32, .getfield 50, 3), (35, .iload_n 3, 1), (36, .invokevirtual 283, 3), (39, .ifCond .eq 21, 3), (42, .aload_n 0, 1)] = true := by decide +kernel
theorem dX10_cheapest_0 : decode cX10_cheapest 0 = .ok (.aload_n 0, 1) := kq.at kqdX10_cheapest_0 0 rfl
theorem dX10_cheapest_1 : decode cX10_cheapest 1 = .ok (.getfield 61, 3) := kq.at kqdX10_cheapest_0 1 rfl
theorem dX10_cheapest_4 : decode cX10_cheapest 4 = .ok (.ifCond .ne 10, 3) := kq.at kqdX10_cheapest_0 2 rfl
theorem dX10_cheapest_7 : decode cX10_cheapest 7 = .ok (.aload_n 0, 1) := kq.at kqdX10_cheapest_0 3 rfl
theorem dX10_cheapest_8 : decode cX10_cheapest 8 = .ok (.bipush 6, 2) := kq.at kqdX10_cheapest_0 4 rfl
theorem dX10_cheapest_10 : decode cX10_cheapest 10 = .ok (.invokevirtual 117, 3) := kq.at kqdX10_cheapest_0 5 rfl
theorem dX10_cheapest_13 : decode cX10_cheapest 13 = .ok (.ireturn, 1) := kq.at kqdX10_cheapest_0 6 rfl
theorem dX10_cheapest_14 : decode cX10_cheapest 14 = .ok (.iconst (-1), 1) := kq.at kqdX10_cheapest_0 7 rfl
theorem dX10_cheapest_15 : decode cX10_cheapest 15 = .ok (.istore_n 1, 1) := kq.at kqdX10_cheapest_0 8 rfl
theorem dX10_cheapest_16 : decode cX10_cheapest 16 = .ok (.iconst 0, 1) := kq.at kqdX10_cheapest_0 9 rfl
theorem dX10_cheapest_17 : decode cX10_cheapest 17 = .ok (.istore_n 2, 1) := kq.at kqdX10_cheapest_0 10 rfl
theorem dX10_cheapest_18 : decode cX10_cheapest 18 = .ok (.iconst 0, 1) := kq.at kqdX10_cheapest_0 11 rfl
theorem dX10_cheapest_19 : decode cX10_cheapest 19 = .ok (.istore_n 3, 1) := kq.at kqdX10_cheapest_0 12 rfl
theorem dX10_cheapest_20 : decode cX10_cheapest 20 = .ok (.iload_n 3, 1) := kq.at kqdX10_cheapest_0 13 rfl
theorem dX10_cheapest_21 : decode cX10_cheapest 21 = .ok (.aload_n 0, 1) := kq.at kqdX10_cheapest_0 14 rfl
theorem dX10_cheapest_22 : decode cX10_cheapest 22 = .ok (.getfield 50, 3) := kq.at kqdX10_cheapest_0 15 rfl
theorem dX10_cheapest_25 : decode cX10_cheapest 25 = .ok (.getfield 181, 3) := kq.at kqdX10_cheapest_0 16 rfl
theorem dX10_cheapest_28 : decode cX10_cheapest 28 = .ok (.if_icmp .ge 63, 3) := kq.at kqdX10_cheapest_0 17 rfl
theorem dX10_cheapest_31 : decode cX10_cheapest 31 = .ok (.aload_n 0, 1) := kq.at kqdX10_cheapest_0 18 rfl
theorem dX10_cheapest_32 : decode cX10_cheapest 32 = .ok (.getfield 50, 3) := kq.at kqdX10_cheapest_0 19 rfl
theorem dX10_cheapest_35 : decode cX10_cheapest 35 = .ok (.iload_n 3, 1) := kq.at kqdX10_cheapest_0 20 rfl
theorem dX10_cheapest_36 : decode cX10_cheapest 36 = .ok (.invokevirtual 283, 3) := kq.at kqdX10_cheapest_0 21 rfl
theorem dX10_cheapest_39 : decode cX10_cheapest 39 = .ok (.ifCond .eq 21, 3) := kq.at kqdX10_cheapest_0 22 rfl
theorem dX10_cheapest_42 : decode cX10_cheapest 42 = .ok (.aload_n 0, 1) := kq.at kqdX10_cheapest_0 23 rfl
theorem kqdX10_cheapest_43 : kq cX10_cheapest [(43, .aload_n 0, 1), (44, .getfield 50, 3), (47, .getfield 184, 3), (50, .iconst 1, 1), (51, .iload_n 3, 1), (52, .ishl, 1), (53, .ior, 1), (54, .invokevirtual 301, 3), (57, .goto 4, 3), (60, .iconst (-1), 1), (61, .istore 4, 2), (63, .iload 4, 2), (65, .iconst (-1), 1), (66, .if_icmp .eq 19, 3), (69, .iload_n 1, 1), (70, .iconst (-1), 1), (71, .if_icmp .eq 9, 3), (74, .iload 4, 2), (76, .iload_n 2, 1), (77, .if_icmp .ge 8, 3), (80, .iload_n 3, 1), (81, .istore_n 1, 1), (82, .iload 4, 2), (84, .istore_n 2, 1)] = true := by decide +kernel
theorem dX10_cheapest_43 : decode cX10_cheapest 43 = .ok (.aload_n 0, 1) := kq.at kqdX10_cheapest_43 0 rfl
theorem dX10_cheapest_44 : decode cX10_cheapest 44 = .ok (.getfield 50, 3) := kq.at kqdX10_cheapest_43 1 rfl
theorem dX10_cheapest_47 : decode cX10_cheapest 47 = .ok (.getfield 184, 3) := kq.at kqdX10_cheapest_43 2 rfl
theorem dX10_cheapest_50 : decode cX10_cheapest 50 = .ok (.iconst 1, 1) := kq.at kqdX10_cheapest_43 3 rfl
theorem dX10_cheapest_51 : decode cX10_cheapest 51 = .ok (.iload_n 3, 1) := kq.at kqdX10_cheapest_43 4 rfl
theorem dX10_cheapest_52 : decode cX10_cheapest 52 = .ok (.ishl, 1) := kq.at kqdX10_cheapest_43 5 rfl
theorem dX10_cheapest_53 : decode cX10_cheapest 53 = .ok (.ior, 1) := kq.at kqdX10_cheapest_43 6 rfl
theorem dX10_cheapest_54 : decode cX10_cheapest 54 = .ok (.invokevirtual 301, 3) := kq.at kqdX10_cheapest_43 7 rfl
theorem dX10_cheapest_57 : decode cX10_cheapest 57 = .ok (.goto 4, 3) := kq.at kqdX10_cheapest_43 8 rfl
theorem dX10_cheapest_60 : decode cX10_cheapest 60 = .ok (.iconst (-1), 1) := kq.at kqdX10_cheapest_43 9 rfl
theorem dX10_cheapest_61 : decode cX10_cheapest 61 = .ok (.istore 4, 2) := kq.at kqdX10_cheapest_43 10 rfl
theorem dX10_cheapest_63 : decode cX10_cheapest 63 = .ok (.iload 4, 2) := kq.at kqdX10_cheapest_43 11 rfl
theorem dX10_cheapest_65 : decode cX10_cheapest 65 = .ok (.iconst (-1), 1) := kq.at kqdX10_cheapest_43 12 rfl
theorem dX10_cheapest_66 : decode cX10_cheapest 66 = .ok (.if_icmp .eq 19, 3) := kq.at kqdX10_cheapest_43 13 rfl
theorem dX10_cheapest_69 : decode cX10_cheapest 69 = .ok (.iload_n 1, 1) := kq.at kqdX10_cheapest_43 14 rfl
theorem dX10_cheapest_70 : decode cX10_cheapest 70 = .ok (.iconst (-1), 1) := kq.at kqdX10_cheapest_43 15 rfl
theorem dX10_cheapest_71 : decode cX10_cheapest 71 = .ok (.if_icmp .eq 9, 3) := kq.at kqdX10_cheapest_43 16 rfl
theorem dX10_cheapest_74 : decode cX10_cheapest 74 = .ok (.iload 4, 2) := kq.at kqdX10_cheapest_43 17 rfl
theorem dX10_cheapest_76 : decode cX10_cheapest 76 = .ok (.iload_n 2, 1) := kq.at kqdX10_cheapest_43 18 rfl
theorem dX10_cheapest_77 : decode cX10_cheapest 77 = .ok (.if_icmp .ge 8, 3) := kq.at kqdX10_cheapest_43 19 rfl
theorem dX10_cheapest_80 : decode cX10_cheapest 80 = .ok (.iload_n 3, 1) := kq.at kqdX10_cheapest_43 20 rfl
theorem dX10_cheapest_81 : decode cX10_cheapest 81 = .ok (.istore_n 1, 1) := kq.at kqdX10_cheapest_43 21 rfl
theorem dX10_cheapest_82 : decode cX10_cheapest 82 = .ok (.iload 4, 2) := kq.at kqdX10_cheapest_43 22 rfl
theorem dX10_cheapest_84 : decode cX10_cheapest 84 = .ok (.istore_n 2, 1) := kq.at kqdX10_cheapest_43 23 rfl
theorem kqdX10_cheapest_85 : kq cX10_cheapest [(85, .iinc 3 1, 3), (88, .goto (-68), 3), (91, .iload_n 1, 1), (92, .iconst (-1), 1), (93, .if_icmp .ne 10, 3), (96, .aload_n 0, 1), (97, .bipush 6, 2), (99, .invokevirtual 117, 3), (102, .ireturn, 1), (103, .aload_n 0, 1), (104, .aload_n 0, 1), (105, .aload_n 0, 1), (106, .getfield 50, 3), (109, .getfield 184, 3), (112, .invokevirtual 301, 3), (115, .iconst (-1), 1), (116, .if_icmp .eq 7, 3), (119, .iconst 1, 1), (120, .goto 4, 3), (123, .iconst 0, 1), (124, .iload_n 1, 1), (125, .bipush 7, 2), (127, .invokevirtual 209, 3), (130, .ireturn, 1)] = true := by decide +kernel
theorem dX10_cheapest_85 : decode cX10_cheapest 85 = .ok (.iinc 3 1, 3) := kq.at kqdX10_cheapest_85 0 rfl
theorem dX10_cheapest_88 : decode cX10_cheapest 88 = .ok (.goto (-68), 3) := kq.at kqdX10_cheapest_85 1 rfl
theorem dX10_cheapest_91 : decode cX10_cheapest 91 = .ok (.iload_n 1, 1) := kq.at kqdX10_cheapest_85 2 rfl
theorem dX10_cheapest_92 : decode cX10_cheapest 92 = .ok (.iconst (-1), 1) := kq.at kqdX10_cheapest_85 3 rfl
theorem dX10_cheapest_93 : decode cX10_cheapest 93 = .ok (.if_icmp .ne 10, 3) := kq.at kqdX10_cheapest_85 4 rfl
theorem dX10_cheapest_96 : decode cX10_cheapest 96 = .ok (.aload_n 0, 1) := kq.at kqdX10_cheapest_85 5 rfl
theorem dX10_cheapest_97 : decode cX10_cheapest 97 = .ok (.bipush 6, 2) := kq.at kqdX10_cheapest_85 6 rfl
theorem dX10_cheapest_99 : decode cX10_cheapest 99 = .ok (.invokevirtual 117, 3) := kq.at kqdX10_cheapest_85 7 rfl
theorem dX10_cheapest_102 : decode cX10_cheapest 102 = .ok (.ireturn, 1) := kq.at kqdX10_cheapest_85 8 rfl
theorem dX10_cheapest_103 : decode cX10_cheapest 103 = .ok (.aload_n 0, 1) := kq.at kqdX10_cheapest_85 9 rfl
theorem dX10_cheapest_104 : decode cX10_cheapest 104 = .ok (.aload_n 0, 1) := kq.at kqdX10_cheapest_85 10 rfl
theorem dX10_cheapest_105 : decode cX10_cheapest 105 = .ok (.aload_n 0, 1) := kq.at kqdX10_cheapest_85 11 rfl
theorem dX10_cheapest_106 : decode cX10_cheapest 106 = .ok (.getfield 50, 3) := kq.at kqdX10_cheapest_85 12 rfl
theorem dX10_cheapest_109 : decode cX10_cheapest 109 = .ok (.getfield 184, 3) := kq.at kqdX10_cheapest_85 13 rfl
theorem dX10_cheapest_112 : decode cX10_cheapest 112 = .ok (.invokevirtual 301, 3) := kq.at kqdX10_cheapest_85 14 rfl
theorem dX10_cheapest_115 : decode cX10_cheapest 115 = .ok (.iconst (-1), 1) := kq.at kqdX10_cheapest_85 15 rfl
theorem dX10_cheapest_116 : decode cX10_cheapest 116 = .ok (.if_icmp .eq 7, 3) := kq.at kqdX10_cheapest_85 16 rfl
theorem dX10_cheapest_119 : decode cX10_cheapest 119 = .ok (.iconst 1, 1) := kq.at kqdX10_cheapest_85 17 rfl
theorem dX10_cheapest_120 : decode cX10_cheapest 120 = .ok (.goto 4, 3) := kq.at kqdX10_cheapest_85 18 rfl
theorem dX10_cheapest_123 : decode cX10_cheapest 123 = .ok (.iconst 0, 1) := kq.at kqdX10_cheapest_85 19 rfl
theorem dX10_cheapest_124 : decode cX10_cheapest 124 = .ok (.iload_n 1, 1) := kq.at kqdX10_cheapest_85 20 rfl
theorem dX10_cheapest_125 : decode cX10_cheapest 125 = .ok (.bipush 7, 2) := kq.at kqdX10_cheapest_85 21 rfl
theorem dX10_cheapest_127 : decode cX10_cheapest 127 = .ok (.invokevirtual 209, 3) := kq.at kqdX10_cheapest_85 22 rfl
theorem dX10_cheapest_130 : decode cX10_cheapest 130 = .ok (.ireturn, 1) := kq.at kqdX10_cheapest_85 23 rfl
theorem kqdX10_piece_0 : kq cX10_piece [(0, .iload_n 2, 1), (1, .ifCond .lt 8, 3), (4, .iload_n 2, 1), (5, .iconst 1, 1), (6, .if_icmp .le 9, 3), (9, .aload_n 0, 1), (10, .iconst 1, 1), (11, .invokevirtual 117, 3), (14, .ireturn, 1), (15, .aload_n 0, 1), (16, .getfield 61, 3), (19, .ifCond .eq 18, 3), (22, .iload_n 1, 1), (23, .ifCond .lt 14, 3), (26, .iload_n 1, 1), (27, .aload_n 0, 1), (28, .getfield 78, 3), (31, .getfield 245, 3), (34, .if_icmp .lt 10, 3), (37, .aload_n 0, 1), (38, .bipush 6, 2), (40, .invokevirtual 117, 3), (43, .ireturn, 1), (44, .aload_n 0, 1)] = true := by decide +kernel
theorem dX10_piece_0 : decode cX10_piece 0 = .ok (.iload_n 2, 1) := kq.at kqdX10_piece_0 0 rfl
theorem dX10_piece_1 : decode cX10_piece 1 = .ok (.ifCond .lt 8, 3) := kq.at kqdX10_piece_0 1 rfl
theorem dX10_piece_4 : decode cX10_piece 4 = .ok (.iload_n 2, 1) := kq.at kqdX10_piece_0 2 rfl
theorem dX10_piece_5 : decode cX10_piece 5 = .ok (.iconst 1, 1) := kq.at kqdX10_piece_0 3 rfl
theorem dX10_piece_6 : decode cX10_piece 6 = .ok (.if_icmp .le 9, 3) := kq.at kqdX10_piece_0 4 rfl
theorem dX10_piece_9 : decode cX10_piece 9 = .ok (.aload_n 0, 1) := kq.at kqdX10_piece_0 5 rfl
theorem dX10_piece_10 : decode cX10_piece 10 = .ok (.iconst 1, 1) := kq.at kqdX10_piece_0 6 rfl
theorem dX10_piece_11 : decode cX10_piece 11 = .ok (.invokevirtual 117, 3) := kq.at kqdX10_piece_0 7 rfl
theorem dX10_piece_14 : decode cX10_piece 14 = .ok (.ireturn, 1) := kq.at kqdX10_piece_0 8 rfl
theorem dX10_piece_15 : decode cX10_piece 15 = .ok (.aload_n 0, 1) := kq.at kqdX10_piece_0 9 rfl
theorem dX10_piece_16 : decode cX10_piece 16 = .ok (.getfield 61, 3) := kq.at kqdX10_piece_0 10 rfl
theorem dX10_piece_19 : decode cX10_piece 19 = .ok (.ifCond .eq 18, 3) := kq.at kqdX10_piece_0 11 rfl
theorem dX10_piece_22 : decode cX10_piece 22 = .ok (.iload_n 1, 1) := kq.at kqdX10_piece_0 12 rfl
theorem dX10_piece_23 : decode cX10_piece 23 = .ok (.ifCond .lt 14, 3) := kq.at kqdX10_piece_0 13 rfl
theorem dX10_piece_26 : decode cX10_piece 26 = .ok (.iload_n 1, 1) := kq.at kqdX10_piece_0 14 rfl
theorem dX10_piece_27 : decode cX10_piece 27 = .ok (.aload_n 0, 1) := kq.at kqdX10_piece_0 15 rfl
theorem dX10_piece_28 : decode cX10_piece 28 = .ok (.getfield 78, 3) := kq.at kqdX10_piece_0 16 rfl
theorem dX10_piece_31 : decode cX10_piece 31 = .ok (.getfield 245, 3) := kq.at kqdX10_piece_0 17 rfl
theorem dX10_piece_34 : decode cX10_piece 34 = .ok (.if_icmp .lt 10, 3) := kq.at kqdX10_piece_0 18 rfl
theorem dX10_piece_37 : decode cX10_piece 37 = .ok (.aload_n 0, 1) := kq.at kqdX10_piece_0 19 rfl
theorem dX10_piece_38 : decode cX10_piece 38 = .ok (.bipush 6, 2) := kq.at kqdX10_piece_0 20 rfl
theorem dX10_piece_40 : decode cX10_piece 40 = .ok (.invokevirtual 117, 3) := kq.at kqdX10_piece_0 21 rfl
theorem dX10_piece_43 : decode cX10_piece 43 = .ok (.ireturn, 1) := kq.at kqdX10_piece_0 22 rfl
theorem dX10_piece_44 : decode cX10_piece 44 = .ok (.aload_n 0, 1) := kq.at kqdX10_piece_0 23 rfl
theorem kqdX10_piece_45 : kq cX10_piece [(45, .iload_n 2, 1), (46, .ifCond .ne 15, 3), (49, .aload_n 0, 1), (50, .getfield 78, 3), (53, .getfield 307, 3), (56, .iload_n 1, 1), (57, .iaload, 1), (58, .goto 12, 3), (61, .aload_n 0, 1), (62, .getfield 78, 3), (65, .getfield 310, 3), (68, .iload_n 1, 1), (69, .iaload, 1), (70, .invokevirtual 113, 3), (73, .ireturn, 1)] = true := by decide +kernel
theorem dX10_piece_45 : decode cX10_piece 45 = .ok (.iload_n 2, 1) := kq.at kqdX10_piece_45 0 rfl
theorem dX10_piece_46 : decode cX10_piece 46 = .ok (.ifCond .ne 15, 3) := kq.at kqdX10_piece_45 1 rfl
theorem dX10_piece_49 : decode cX10_piece 49 = .ok (.aload_n 0, 1) := kq.at kqdX10_piece_45 2 rfl
theorem dX10_piece_50 : decode cX10_piece 50 = .ok (.getfield 78, 3) := kq.at kqdX10_piece_45 3 rfl
theorem dX10_piece_53 : decode cX10_piece 53 = .ok (.getfield 307, 3) := kq.at kqdX10_piece_45 4 rfl
theorem dX10_piece_56 : decode cX10_piece 56 = .ok (.iload_n 1, 1) := kq.at kqdX10_piece_45 5 rfl
theorem dX10_piece_57 : decode cX10_piece 57 = .ok (.iaload, 1) := kq.at kqdX10_piece_45 6 rfl
theorem dX10_piece_58 : decode cX10_piece 58 = .ok (.goto 12, 3) := kq.at kqdX10_piece_45 7 rfl
theorem dX10_piece_61 : decode cX10_piece 61 = .ok (.aload_n 0, 1) := kq.at kqdX10_piece_45 8 rfl
theorem dX10_piece_62 : decode cX10_piece 62 = .ok (.getfield 78, 3) := kq.at kqdX10_piece_45 9 rfl
theorem dX10_piece_65 : decode cX10_piece 65 = .ok (.getfield 310, 3) := kq.at kqdX10_piece_45 10 rfl
theorem dX10_piece_68 : decode cX10_piece 68 = .ok (.iload_n 1, 1) := kq.at kqdX10_piece_45 11 rfl
theorem dX10_piece_69 : decode cX10_piece 69 = .ok (.iaload, 1) := kq.at kqdX10_piece_45 12 rfl
theorem dX10_piece_70 : decode cX10_piece 70 = .ok (.invokevirtual 113, 3) := kq.at kqdX10_piece_45 13 rfl
theorem dX10_piece_73 : decode cX10_piece 73 = .ok (.ireturn, 1) := kq.at kqdX10_piece_45 14 rfl
theorem kqdX10_by_0 : kq cX10_by [(0, .aload_n 0, 1), (1, .iload_n 1, 1), (2, .invokevirtual 256, 3), (5, .ifCond .ne 10, 3), (8, .aload_n 0, 1), (9, .bipush 6, 2), (11, .invokevirtual 117, 3), (14, .ireturn, 1), (15, .aload_n 0, 1), (16, .aload_n 0, 1), (17, .getfield 68, 3), (20, .getfield 313, 3), (23, .iload_n 1, 1), (24, .iaload, 1), (25, .iconst (-1), 1), (26, .if_icmp .eq 7, 3), (29, .iconst 1, 1), (30, .goto 4, 3), (33, .iconst 0, 1), (34, .aload_n 0, 1), (35, .getfield 68, 3), (38, .getfield 313, 3), (41, .iload_n 1, 1), (42, .iaload, 1)] = true := by decide +kernel
theorem dX10_by_0 : decode cX10_by 0 = .ok (.aload_n 0, 1) := kq.at kqdX10_by_0 0 rfl
theorem dX10_by_1 : decode cX10_by 1 = .ok (.iload_n 1, 1) := kq.at kqdX10_by_0 1 rfl
theorem dX10_by_2 : decode cX10_by 2 = .ok (.invokevirtual 256, 3) := kq.at kqdX10_by_0 2 rfl
theorem dX10_by_5 : decode cX10_by 5 = .ok (.ifCond .ne 10, 3) := kq.at kqdX10_by_0 3 rfl
theorem dX10_by_8 : decode cX10_by 8 = .ok (.aload_n 0, 1) := kq.at kqdX10_by_0 4 rfl
theorem dX10_by_9 : decode cX10_by 9 = .ok (.bipush 6, 2) := kq.at kqdX10_by_0 5 rfl
theorem dX10_by_11 : decode cX10_by 11 = .ok (.invokevirtual 117, 3) := kq.at kqdX10_by_0 6 rfl
theorem dX10_by_14 : decode cX10_by 14 = .ok (.ireturn, 1) := kq.at kqdX10_by_0 7 rfl
theorem dX10_by_15 : decode cX10_by 15 = .ok (.aload_n 0, 1) := kq.at kqdX10_by_0 8 rfl
theorem dX10_by_16 : decode cX10_by 16 = .ok (.aload_n 0, 1) := kq.at kqdX10_by_0 9 rfl
theorem dX10_by_17 : decode cX10_by 17 = .ok (.getfield 68, 3) := kq.at kqdX10_by_0 10 rfl
theorem dX10_by_20 : decode cX10_by 20 = .ok (.getfield 313, 3) := kq.at kqdX10_by_0 11 rfl
theorem dX10_by_23 : decode cX10_by 23 = .ok (.iload_n 1, 1) := kq.at kqdX10_by_0 12 rfl
theorem dX10_by_24 : decode cX10_by 24 = .ok (.iaload, 1) := kq.at kqdX10_by_0 13 rfl
theorem dX10_by_25 : decode cX10_by 25 = .ok (.iconst (-1), 1) := kq.at kqdX10_by_0 14 rfl
theorem dX10_by_26 : decode cX10_by 26 = .ok (.if_icmp .eq 7, 3) := kq.at kqdX10_by_0 15 rfl
theorem dX10_by_29 : decode cX10_by 29 = .ok (.iconst 1, 1) := kq.at kqdX10_by_0 16 rfl
theorem dX10_by_30 : decode cX10_by 30 = .ok (.goto 4, 3) := kq.at kqdX10_by_0 17 rfl
theorem dX10_by_33 : decode cX10_by 33 = .ok (.iconst 0, 1) := kq.at kqdX10_by_0 18 rfl
theorem dX10_by_34 : decode cX10_by 34 = .ok (.aload_n 0, 1) := kq.at kqdX10_by_0 19 rfl
theorem dX10_by_35 : decode cX10_by 35 = .ok (.getfield 68, 3) := kq.at kqdX10_by_0 20 rfl
theorem dX10_by_38 : decode cX10_by 38 = .ok (.getfield 313, 3) := kq.at kqdX10_by_0 21 rfl
theorem dX10_by_41 : decode cX10_by 41 = .ok (.iload_n 1, 1) := kq.at kqdX10_by_0 22 rfl
theorem dX10_by_42 : decode cX10_by 42 = .ok (.iaload, 1) := kq.at kqdX10_by_0 23 rfl
theorem kqdX10_by_43 : kq cX10_by [(43, .bipush 6, 2), (45, .invokevirtual 209, 3), (48, .ireturn, 1)] = true := by decide +kernel
theorem dX10_by_43 : decode cX10_by 43 = .ok (.bipush 6, 2) := kq.at kqdX10_by_43 0 rfl
theorem dX10_by_45 : decode cX10_by 45 = .ok (.invokevirtual 209, 3) := kq.at kqdX10_by_43 1 rfl
theorem dX10_by_48 : decode cX10_by 48 = .ok (.ireturn, 1) := kq.at kqdX10_by_43 2 rfl
theorem kqdX10_dense_0 : kq cX10_dense [(0, .iload_n 1, 1), (1, .iconst 1, 1), (2, .if_icmp .lt 9, 3), (5, .iload_n 1, 1), (6, .bipush 40, 2), (8, .if_icmp .le 9, 3), (11, .aload_n 0, 1), (12, .iconst 1, 1), (13, .invokevirtual 117, 3), (16, .ireturn, 1), (17, .aload_n 0, 1), (18, .getfield 61, 3), (21, .ifCond .ne 10, 3), (24, .aload_n 0, 1), (25, .bipush 6, 2), (27, .invokevirtual 117, 3), (30, .ireturn, 1), (31, .aload_n 0, 1), (32, .iload_n 1, 1), (33, .aload_n 0, 1), (34, .getfield 68, 3), (37, .getfield 200, 3), (40, .if_icmp .gt 7, 3), (43, .iconst 1, 1)] = true := by decide +kernel
theorem dX10_dense_0 : decode cX10_dense 0 = .ok (.iload_n 1, 1) := kq.at kqdX10_dense_0 0 rfl
theorem dX10_dense_1 : decode cX10_dense 1 = .ok (.iconst 1, 1) := kq.at kqdX10_dense_0 1 rfl
theorem dX10_dense_2 : decode cX10_dense 2 = .ok (.if_icmp .lt 9, 3) := kq.at kqdX10_dense_0 2 rfl
theorem dX10_dense_5 : decode cX10_dense 5 = .ok (.iload_n 1, 1) := kq.at kqdX10_dense_0 3 rfl
theorem dX10_dense_6 : decode cX10_dense 6 = .ok (.bipush 40, 2) := kq.at kqdX10_dense_0 4 rfl
theorem dX10_dense_8 : decode cX10_dense 8 = .ok (.if_icmp .le 9, 3) := kq.at kqdX10_dense_0 5 rfl
theorem dX10_dense_11 : decode cX10_dense 11 = .ok (.aload_n 0, 1) := kq.at kqdX10_dense_0 6 rfl
theorem dX10_dense_12 : decode cX10_dense 12 = .ok (.iconst 1, 1) := kq.at kqdX10_dense_0 7 rfl
theorem dX10_dense_13 : decode cX10_dense 13 = .ok (.invokevirtual 117, 3) := kq.at kqdX10_dense_0 8 rfl
theorem dX10_dense_16 : decode cX10_dense 16 = .ok (.ireturn, 1) := kq.at kqdX10_dense_0 9 rfl
theorem dX10_dense_17 : decode cX10_dense 17 = .ok (.aload_n 0, 1) := kq.at kqdX10_dense_0 10 rfl
theorem dX10_dense_18 : decode cX10_dense 18 = .ok (.getfield 61, 3) := kq.at kqdX10_dense_0 11 rfl
theorem dX10_dense_21 : decode cX10_dense 21 = .ok (.ifCond .ne 10, 3) := kq.at kqdX10_dense_0 12 rfl
theorem dX10_dense_24 : decode cX10_dense 24 = .ok (.aload_n 0, 1) := kq.at kqdX10_dense_0 13 rfl
theorem dX10_dense_25 : decode cX10_dense 25 = .ok (.bipush 6, 2) := kq.at kqdX10_dense_0 14 rfl
theorem dX10_dense_27 : decode cX10_dense 27 = .ok (.invokevirtual 117, 3) := kq.at kqdX10_dense_0 15 rfl
theorem dX10_dense_30 : decode cX10_dense 30 = .ok (.ireturn, 1) := kq.at kqdX10_dense_0 16 rfl
theorem dX10_dense_31 : decode cX10_dense 31 = .ok (.aload_n 0, 1) := kq.at kqdX10_dense_0 17 rfl
theorem dX10_dense_32 : decode cX10_dense 32 = .ok (.iload_n 1, 1) := kq.at kqdX10_dense_0 18 rfl
theorem dX10_dense_33 : decode cX10_dense 33 = .ok (.aload_n 0, 1) := kq.at kqdX10_dense_0 19 rfl
theorem dX10_dense_34 : decode cX10_dense 34 = .ok (.getfield 68, 3) := kq.at kqdX10_dense_0 20 rfl
theorem dX10_dense_37 : decode cX10_dense 37 = .ok (.getfield 200, 3) := kq.at kqdX10_dense_0 21 rfl
theorem dX10_dense_40 : decode cX10_dense 40 = .ok (.if_icmp .gt 7, 3) := kq.at kqdX10_dense_0 22 rfl
theorem dX10_dense_43 : decode cX10_dense 43 = .ok (.iconst 1, 1) := kq.at kqdX10_dense_0 23 rfl
theorem kqdX10_dense_44 : kq cX10_dense [(44, .goto 4, 3), (47, .iconst 0, 1), (48, .aload_n 0, 1), (49, .getfield 68, 3), (52, .iload_n 1, 1), (53, .invokevirtual 316, 3), (56, .bipush 7, 2), (58, .invokevirtual 209, 3), (61, .ireturn, 1)] = true := by decide +kernel
theorem dX10_dense_44 : decode cX10_dense 44 = .ok (.goto 4, 3) := kq.at kqdX10_dense_44 0 rfl
theorem dX10_dense_47 : decode cX10_dense 47 = .ok (.iconst 0, 1) := kq.at kqdX10_dense_44 1 rfl
theorem dX10_dense_48 : decode cX10_dense 48 = .ok (.aload_n 0, 1) := kq.at kqdX10_dense_44 2 rfl
theorem dX10_dense_49 : decode cX10_dense 49 = .ok (.getfield 68, 3) := kq.at kqdX10_dense_44 3 rfl
theorem dX10_dense_52 : decode cX10_dense 52 = .ok (.iload_n 1, 1) := kq.at kqdX10_dense_44 4 rfl
theorem dX10_dense_53 : decode cX10_dense 53 = .ok (.invokevirtual 316, 3) := kq.at kqdX10_dense_44 5 rfl
theorem dX10_dense_56 : decode cX10_dense 56 = .ok (.bipush 7, 2) := kq.at kqdX10_dense_44 6 rfl
theorem dX10_dense_58 : decode cX10_dense 58 = .ok (.invokevirtual 209, 3) := kq.at kqdX10_dense_44 7 rfl
theorem dX10_dense_61 : decode cX10_dense 61 = .ok (.ireturn, 1) := kq.at kqdX10_dense_44 8 rfl
theorem kqdX10_alike_0 : kq cX10_alike [(0, .aload_n 0, 1), (1, .iload_n 1, 1), (2, .invokevirtual 262, 3), (5, .ifCond .eq 11, 3), (8, .aload_n 0, 1), (9, .iload_n 2, 1), (10, .invokevirtual 262, 3), (13, .ifCond .ne 10, 3), (16, .aload_n 0, 1), (17, .bipush 6, 2), (19, .invokevirtual 117, 3)] = true := by decide +kernel
theorem dX10_alike_0 : decode cX10_alike 0 = .ok (.aload_n 0, 1) := kq.at kqdX10_alike_0 0 rfl
theorem dX10_alike_1 : decode cX10_alike 1 = .ok (.iload_n 1, 1) := kq.at kqdX10_alike_0 1 rfl
theorem dX10_alike_2 : decode cX10_alike 2 = .ok (.invokevirtual 262, 3) := kq.at kqdX10_alike_0 2 rfl
theorem dX10_alike_5 : decode cX10_alike 5 = .ok (.ifCond .eq 11, 3) := kq.at kqdX10_alike_0 3 rfl
theorem dX10_alike_8 : decode cX10_alike 8 = .ok (.aload_n 0, 1) := kq.at kqdX10_alike_0 4 rfl
theorem dX10_alike_9 : decode cX10_alike 9 = .ok (.iload_n 2, 1) := kq.at kqdX10_alike_0 5 rfl
theorem dX10_alike_10 : decode cX10_alike 10 = .ok (.invokevirtual 262, 3) := kq.at kqdX10_alike_0 6 rfl
theorem dX10_alike_13 : decode cX10_alike 13 = .ok (.ifCond .ne 10, 3) := kq.at kqdX10_alike_0 7 rfl
theorem dX10_alike_16 : decode cX10_alike 16 = .ok (.aload_n 0, 1) := kq.at kqdX10_alike_0 8 rfl
theorem dX10_alike_17 : decode cX10_alike 17 = .ok (.bipush 6, 2) := kq.at kqdX10_alike_0 9 rfl
theorem dX10_alike_19 : decode cX10_alike 19 = .ok (.invokevirtual 117, 3) := kq.at kqdX10_alike_0 10 rfl
