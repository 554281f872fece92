theorem kqdX11_leastOf_75 : kq cX11_leastOf [(75, .iload_n 3, 1), (76, .iaload, 1), (77, .aload_n 0, 1), (78, .iload 4, 2), (80, .invokevirtual 300, 3), (83, .aload_n 0, 1), (84, .iload_n 3, 1), (85, .invokevirtual 239, 3), (88, .invokestatic 236, 3), (91, .ifCond .eq 7, 3), (94, .iconst 1, 1), (95, .goto 4, 3), (98, .iconst 0, 1), (99, .iadd, 1), (100, .aload_n 0, 1), (101, .getfield 59, 3), (104, .iload_n 3, 1), (105, .aload_n 0, 1), (106, .getfield 7, 3), (109, .iconst 0, 1), (110, .iload 4, 2), (112, .invokestatic 194, 3), (115, .iaload, 1), (116, .iadd, 1)] = true := by decide +kernel
theorem dX11_leastOf_75 : decode cX11_leastOf 75 = .ok (.iload_n 3, 1) := kq.at kqdX11_leastOf_75 0 rfl
theorem dX11_leastOf_76 : decode cX11_leastOf 76 = .ok (.iaload, 1) := kq.at kqdX11_leastOf_75 1 rfl
theorem dX11_leastOf_77 : decode cX11_leastOf 77 = .ok (.aload_n 0, 1) := kq.at kqdX11_leastOf_75 2 rfl
theorem dX11_leastOf_78 : decode cX11_leastOf 78 = .ok (.iload 4, 2) := kq.at kqdX11_leastOf_75 3 rfl
theorem dX11_leastOf_80 : decode cX11_leastOf 80 = .ok (.invokevirtual 300, 3) := kq.at kqdX11_leastOf_75 4 rfl
theorem dX11_leastOf_83 : decode cX11_leastOf 83 = .ok (.aload_n 0, 1) := kq.at kqdX11_leastOf_75 5 rfl
theorem dX11_leastOf_84 : decode cX11_leastOf 84 = .ok (.iload_n 3, 1) := kq.at kqdX11_leastOf_75 6 rfl
theorem dX11_leastOf_85 : decode cX11_leastOf 85 = .ok (.invokevirtual 239, 3) := kq.at kqdX11_leastOf_75 7 rfl
theorem dX11_leastOf_88 : decode cX11_leastOf 88 = .ok (.invokestatic 236, 3) := kq.at kqdX11_leastOf_75 8 rfl
theorem dX11_leastOf_91 : decode cX11_leastOf 91 = .ok (.ifCond .eq 7, 3) := kq.at kqdX11_leastOf_75 9 rfl
theorem dX11_leastOf_94 : decode cX11_leastOf 94 = .ok (.iconst 1, 1) := kq.at kqdX11_leastOf_75 10 rfl
theorem dX11_leastOf_95 : decode cX11_leastOf 95 = .ok (.goto 4, 3) := kq.at kqdX11_leastOf_75 11 rfl
theorem dX11_leastOf_98 : decode cX11_leastOf 98 = .ok (.iconst 0, 1) := kq.at kqdX11_leastOf_75 12 rfl
theorem dX11_leastOf_99 : decode cX11_leastOf 99 = .ok (.iadd, 1) := kq.at kqdX11_leastOf_75 13 rfl
theorem dX11_leastOf_100 : decode cX11_leastOf 100 = .ok (.aload_n 0, 1) := kq.at kqdX11_leastOf_75 14 rfl
theorem dX11_leastOf_101 : decode cX11_leastOf 101 = .ok (.getfield 59, 3) := kq.at kqdX11_leastOf_75 15 rfl
theorem dX11_leastOf_104 : decode cX11_leastOf 104 = .ok (.iload_n 3, 1) := kq.at kqdX11_leastOf_75 16 rfl
theorem dX11_leastOf_105 : decode cX11_leastOf 105 = .ok (.aload_n 0, 1) := kq.at kqdX11_leastOf_75 17 rfl
theorem dX11_leastOf_106 : decode cX11_leastOf 106 = .ok (.getfield 7, 3) := kq.at kqdX11_leastOf_75 18 rfl
theorem dX11_leastOf_109 : decode cX11_leastOf 109 = .ok (.iconst 0, 1) := kq.at kqdX11_leastOf_75 19 rfl
theorem dX11_leastOf_110 : decode cX11_leastOf 110 = .ok (.iload 4, 2) := kq.at kqdX11_leastOf_75 20 rfl
theorem dX11_leastOf_112 : decode cX11_leastOf 112 = .ok (.invokestatic 194, 3) := kq.at kqdX11_leastOf_75 21 rfl
theorem dX11_leastOf_115 : decode cX11_leastOf 115 = .ok (.iaload, 1) := kq.at kqdX11_leastOf_75 22 rfl
theorem dX11_leastOf_116 : decode cX11_leastOf 116 = .ok (.iadd, 1) := kq.at kqdX11_leastOf_75 23 rfl
theorem kqdX11_leastOf_117 : kq cX11_leastOf [(117, .iaload, 1), (118, .iadd, 1), (119, .invokestatic 154, 3), (122, .iastore, 1), (123, .iinc 4 1, 3), (126, .goto (-98), 3), (129, .iinc 3 (-1), 3), (132, .goto (-121), 3), (135, .aload_n 0, 1), (136, .getfield 59, 3), (139, .iload_n 1, 1), (140, .iaload, 1), (141, .ireturn, 1)] = true := by decide +kernel
theorem dX11_leastOf_117 : decode cX11_leastOf 117 = .ok (.iaload, 1) := kq.at kqdX11_leastOf_117 0 rfl
theorem dX11_leastOf_118 : decode cX11_leastOf 118 = .ok (.iadd, 1) := kq.at kqdX11_leastOf_117 1 rfl
theorem dX11_leastOf_119 : decode cX11_leastOf 119 = .ok (.invokestatic 154, 3) := kq.at kqdX11_leastOf_117 2 rfl
theorem dX11_leastOf_122 : decode cX11_leastOf 122 = .ok (.iastore, 1) := kq.at kqdX11_leastOf_117 3 rfl
theorem dX11_leastOf_123 : decode cX11_leastOf 123 = .ok (.iinc 4 1, 3) := kq.at kqdX11_leastOf_117 4 rfl
theorem dX11_leastOf_126 : decode cX11_leastOf 126 = .ok (.goto (-98), 3) := kq.at kqdX11_leastOf_117 5 rfl
theorem dX11_leastOf_129 : decode cX11_leastOf 129 = .ok (.iinc 3 (-1), 3) := kq.at kqdX11_leastOf_117 6 rfl
theorem dX11_leastOf_132 : decode cX11_leastOf 132 = .ok (.goto (-121), 3) := kq.at kqdX11_leastOf_117 7 rfl
theorem dX11_leastOf_135 : decode cX11_leastOf 135 = .ok (.aload_n 0, 1) := kq.at kqdX11_leastOf_117 8 rfl
theorem dX11_leastOf_136 : decode cX11_leastOf 136 = .ok (.getfield 59, 3) := kq.at kqdX11_leastOf_117 9 rfl
theorem dX11_leastOf_139 : decode cX11_leastOf 139 = .ok (.iload_n 1, 1) := kq.at kqdX11_leastOf_117 10 rfl
theorem dX11_leastOf_140 : decode cX11_leastOf 140 = .ok (.iaload, 1) := kq.at kqdX11_leastOf_117 11 rfl
theorem dX11_leastOf_141 : decode cX11_leastOf 141 = .ok (.ireturn, 1) := kq.at kqdX11_leastOf_117 12 rfl
theorem kqdX11_fewest_0 : kq cX11_fewest [(0, .aload_n 0, 1), (1, .invokevirtual 306, 3), (4, .ifCond .ne 10, 3), (7, .aload_n 0, 1), (8, .bipush 6, 2), (10, .invokevirtual 188, 3), (13, .ireturn, 1), (14, .aload_n 0, 1), (15, .invokevirtual 309, 3), (18, .aload_n 0, 1), (19, .aload_n 0, 1), (20, .getfield 7, 3), (23, .bipush 6, 2), (25, .iaload, 1), (26, .invokevirtual 291, 3), (29, .ifCond .ne 10, 3), (32, .aload_n 0, 1), (33, .bipush 7, 2), (35, .invokevirtual 188, 3), (38, .ireturn, 1), (39, .aload_n 0, 1), (40, .getfield 7, 3), (43, .sipush 16509, 3), (46, .iaload, 1)] = true := by decide +kernel
theorem dX11_fewest_0 : decode cX11_fewest 0 = .ok (.aload_n 0, 1) := kq.at kqdX11_fewest_0 0 rfl
theorem dX11_fewest_1 : decode cX11_fewest 1 = .ok (.invokevirtual 306, 3) := kq.at kqdX11_fewest_0 1 rfl
theorem dX11_fewest_4 : decode cX11_fewest 4 = .ok (.ifCond .ne 10, 3) := kq.at kqdX11_fewest_0 2 rfl
theorem dX11_fewest_7 : decode cX11_fewest 7 = .ok (.aload_n 0, 1) := kq.at kqdX11_fewest_0 3 rfl
theorem dX11_fewest_8 : decode cX11_fewest 8 = .ok (.bipush 6, 2) := kq.at kqdX11_fewest_0 4 rfl
theorem dX11_fewest_10 : decode cX11_fewest 10 = .ok (.invokevirtual 188, 3) := kq.at kqdX11_fewest_0 5 rfl
theorem dX11_fewest_13 : decode cX11_fewest 13 = .ok (.ireturn, 1) := kq.at kqdX11_fewest_0 6 rfl
theorem dX11_fewest_14 : decode cX11_fewest 14 = .ok (.aload_n 0, 1) := kq.at kqdX11_fewest_0 7 rfl
theorem dX11_fewest_15 : decode cX11_fewest 15 = .ok (.invokevirtual 309, 3) := kq.at kqdX11_fewest_0 8 rfl
theorem dX11_fewest_18 : decode cX11_fewest 18 = .ok (.aload_n 0, 1) := kq.at kqdX11_fewest_0 9 rfl
theorem dX11_fewest_19 : decode cX11_fewest 19 = .ok (.aload_n 0, 1) := kq.at kqdX11_fewest_0 10 rfl
theorem dX11_fewest_20 : decode cX11_fewest 20 = .ok (.getfield 7, 3) := kq.at kqdX11_fewest_0 11 rfl
theorem dX11_fewest_23 : decode cX11_fewest 23 = .ok (.bipush 6, 2) := kq.at kqdX11_fewest_0 12 rfl
theorem dX11_fewest_25 : decode cX11_fewest 25 = .ok (.iaload, 1) := kq.at kqdX11_fewest_0 13 rfl
theorem dX11_fewest_26 : decode cX11_fewest 26 = .ok (.invokevirtual 291, 3) := kq.at kqdX11_fewest_0 14 rfl
theorem dX11_fewest_29 : decode cX11_fewest 29 = .ok (.ifCond .ne 10, 3) := kq.at kqdX11_fewest_0 15 rfl
theorem dX11_fewest_32 : decode cX11_fewest 32 = .ok (.aload_n 0, 1) := kq.at kqdX11_fewest_0 16 rfl
theorem dX11_fewest_33 : decode cX11_fewest 33 = .ok (.bipush 7, 2) := kq.at kqdX11_fewest_0 17 rfl
theorem dX11_fewest_35 : decode cX11_fewest 35 = .ok (.invokevirtual 188, 3) := kq.at kqdX11_fewest_0 18 rfl
theorem dX11_fewest_38 : decode cX11_fewest 38 = .ok (.ireturn, 1) := kq.at kqdX11_fewest_0 19 rfl
theorem dX11_fewest_39 : decode cX11_fewest 39 = .ok (.aload_n 0, 1) := kq.at kqdX11_fewest_0 20 rfl
theorem dX11_fewest_40 : decode cX11_fewest 40 = .ok (.getfield 7, 3) := kq.at kqdX11_fewest_0 21 rfl
theorem dX11_fewest_43 : decode cX11_fewest 43 = .ok (.sipush 16509, 3) := kq.at kqdX11_fewest_0 22 rfl
theorem dX11_fewest_46 : decode cX11_fewest 46 = .ok (.iaload, 1) := kq.at kqdX11_fewest_0 23 rfl
theorem kqdX11_fewest_47 : kq cX11_fewest [(47, .ifCond .le 16, 3), (50, .aload_n 0, 1), (51, .getfield 7, 3), (54, .sipush 16509, 3), (57, .iaload, 1), (58, .iconst 1, 1), (59, .isub, 1), (60, .goto 4, 3), (63, .iconst 0, 1), (64, .istore_n 1, 1), (65, .iconst 0, 1), (66, .istore_n 2, 1), (67, .iload_n 2, 1), (68, .aload_n 0, 1), (69, .getfield 7, 3), (72, .bipush 7, 2), (74, .iaload, 1), (75, .if_icmp .ge 102, 3), (78, .aload_n 0, 1), (79, .iload_n 2, 1), (80, .invokevirtual 239, 3), (83, .invokestatic 260, 3), (86, .ifCond .eq 25, 3), (89, .iload_n 1, 1)] = true := by decide +kernel
theorem dX11_fewest_47 : decode cX11_fewest 47 = .ok (.ifCond .le 16, 3) := kq.at kqdX11_fewest_47 0 rfl
theorem dX11_fewest_50 : decode cX11_fewest 50 = .ok (.aload_n 0, 1) := kq.at kqdX11_fewest_47 1 rfl
theorem dX11_fewest_51 : decode cX11_fewest 51 = .ok (.getfield 7, 3) := kq.at kqdX11_fewest_47 2 rfl
theorem dX11_fewest_54 : decode cX11_fewest 54 = .ok (.sipush 16509, 3) := kq.at kqdX11_fewest_47 3 rfl
theorem dX11_fewest_57 : decode cX11_fewest 57 = .ok (.iaload, 1) := kq.at kqdX11_fewest_47 4 rfl
theorem dX11_fewest_58 : decode cX11_fewest 58 = .ok (.iconst 1, 1) := kq.at kqdX11_fewest_47 5 rfl
theorem dX11_fewest_59 : decode cX11_fewest 59 = .ok (.isub, 1) := kq.at kqdX11_fewest_47 6 rfl
theorem dX11_fewest_60 : decode cX11_fewest 60 = .ok (.goto 4, 3) := kq.at kqdX11_fewest_47 7 rfl
theorem dX11_fewest_63 : decode cX11_fewest 63 = .ok (.iconst 0, 1) := kq.at kqdX11_fewest_47 8 rfl
theorem dX11_fewest_64 : decode cX11_fewest 64 = .ok (.istore_n 1, 1) := kq.at kqdX11_fewest_47 9 rfl
theorem dX11_fewest_65 : decode cX11_fewest 65 = .ok (.iconst 0, 1) := kq.at kqdX11_fewest_47 10 rfl
theorem dX11_fewest_66 : decode cX11_fewest 66 = .ok (.istore_n 2, 1) := kq.at kqdX11_fewest_47 11 rfl
theorem dX11_fewest_67 : decode cX11_fewest 67 = .ok (.iload_n 2, 1) := kq.at kqdX11_fewest_47 12 rfl
theorem dX11_fewest_68 : decode cX11_fewest 68 = .ok (.aload_n 0, 1) := kq.at kqdX11_fewest_47 13 rfl
theorem dX11_fewest_69 : decode cX11_fewest 69 = .ok (.getfield 7, 3) := kq.at kqdX11_fewest_47 14 rfl
theorem dX11_fewest_72 : decode cX11_fewest 72 = .ok (.bipush 7, 2) := kq.at kqdX11_fewest_47 15 rfl
theorem dX11_fewest_74 : decode cX11_fewest 74 = .ok (.iaload, 1) := kq.at kqdX11_fewest_47 16 rfl
theorem dX11_fewest_75 : decode cX11_fewest 75 = .ok (.if_icmp .ge 102, 3) := kq.at kqdX11_fewest_47 17 rfl
theorem dX11_fewest_78 : decode cX11_fewest 78 = .ok (.aload_n 0, 1) := kq.at kqdX11_fewest_47 18 rfl
theorem dX11_fewest_79 : decode cX11_fewest 79 = .ok (.iload_n 2, 1) := kq.at kqdX11_fewest_47 19 rfl
theorem dX11_fewest_80 : decode cX11_fewest 80 = .ok (.invokevirtual 239, 3) := kq.at kqdX11_fewest_47 20 rfl
theorem dX11_fewest_83 : decode cX11_fewest 83 = .ok (.invokestatic 260, 3) := kq.at kqdX11_fewest_47 21 rfl
theorem dX11_fewest_86 : decode cX11_fewest 86 = .ok (.ifCond .eq 25, 3) := kq.at kqdX11_fewest_47 22 rfl
theorem dX11_fewest_89 : decode cX11_fewest 89 = .ok (.iload_n 1, 1) := kq.at kqdX11_fewest_47 23 rfl
theorem kqdX11_fewest_90 : kq cX11_fewest [(90, .aload_n 0, 1), (91, .iload_n 2, 1), (92, .aload_n 0, 1), (93, .iload_n 2, 1), (94, .invokevirtual 279, 3), (97, .invokevirtual 363, 3), (100, .iadd, 1), (101, .istore_n 1, 1), (102, .aload_n 0, 1), (103, .iload_n 2, 1), (104, .invokevirtual 279, 3), (107, .istore_n 2, 1), (108, .goto (-41), 3), (111, .aload_n 0, 1), (112, .iload_n 2, 1), (113, .invokevirtual 239, 3), (116, .invokestatic 276, 3), (119, .ifCond .eq 52, 3), (122, .iload_n 1, 1), (123, .aload_n 0, 1), (124, .aload_n 0, 1), (125, .aload_n 0, 1), (126, .iload_n 2, 1), (127, .invokevirtual 239, 3)] = true := by decide +kernel
theorem dX11_fewest_90 : decode cX11_fewest 90 = .ok (.aload_n 0, 1) := kq.at kqdX11_fewest_90 0 rfl
theorem dX11_fewest_91 : decode cX11_fewest 91 = .ok (.iload_n 2, 1) := kq.at kqdX11_fewest_90 1 rfl
theorem dX11_fewest_92 : decode cX11_fewest 92 = .ok (.aload_n 0, 1) := kq.at kqdX11_fewest_90 2 rfl
theorem dX11_fewest_93 : decode cX11_fewest 93 = .ok (.iload_n 2, 1) := kq.at kqdX11_fewest_90 3 rfl
theorem dX11_fewest_94 : decode cX11_fewest 94 = .ok (.invokevirtual 279, 3) := kq.at kqdX11_fewest_90 4 rfl
theorem dX11_fewest_97 : decode cX11_fewest 97 = .ok (.invokevirtual 363, 3) := kq.at kqdX11_fewest_90 5 rfl
theorem dX11_fewest_100 : decode cX11_fewest 100 = .ok (.iadd, 1) := kq.at kqdX11_fewest_90 6 rfl
theorem dX11_fewest_101 : decode cX11_fewest 101 = .ok (.istore_n 1, 1) := kq.at kqdX11_fewest_90 7 rfl
theorem dX11_fewest_102 : decode cX11_fewest 102 = .ok (.aload_n 0, 1) := kq.at kqdX11_fewest_90 8 rfl
theorem dX11_fewest_103 : decode cX11_fewest 103 = .ok (.iload_n 2, 1) := kq.at kqdX11_fewest_90 9 rfl
theorem dX11_fewest_104 : decode cX11_fewest 104 = .ok (.invokevirtual 279, 3) := kq.at kqdX11_fewest_90 10 rfl
theorem dX11_fewest_107 : decode cX11_fewest 107 = .ok (.istore_n 2, 1) := kq.at kqdX11_fewest_90 11 rfl
theorem dX11_fewest_108 : decode cX11_fewest 108 = .ok (.goto (-41), 3) := kq.at kqdX11_fewest_90 12 rfl
theorem dX11_fewest_111 : decode cX11_fewest 111 = .ok (.aload_n 0, 1) := kq.at kqdX11_fewest_90 13 rfl
theorem dX11_fewest_112 : decode cX11_fewest 112 = .ok (.iload_n 2, 1) := kq.at kqdX11_fewest_90 14 rfl
theorem dX11_fewest_113 : decode cX11_fewest 113 = .ok (.invokevirtual 239, 3) := kq.at kqdX11_fewest_90 15 rfl
theorem dX11_fewest_116 : decode cX11_fewest 116 = .ok (.invokestatic 276, 3) := kq.at kqdX11_fewest_90 16 rfl
theorem dX11_fewest_119 : decode cX11_fewest 119 = .ok (.ifCond .eq 52, 3) := kq.at kqdX11_fewest_90 17 rfl
theorem dX11_fewest_122 : decode cX11_fewest 122 = .ok (.iload_n 1, 1) := kq.at kqdX11_fewest_90 18 rfl
theorem dX11_fewest_123 : decode cX11_fewest 123 = .ok (.aload_n 0, 1) := kq.at kqdX11_fewest_90 19 rfl
theorem dX11_fewest_124 : decode cX11_fewest 124 = .ok (.aload_n 0, 1) := kq.at kqdX11_fewest_90 20 rfl
theorem dX11_fewest_125 : decode cX11_fewest 125 = .ok (.aload_n 0, 1) := kq.at kqdX11_fewest_90 21 rfl
theorem dX11_fewest_126 : decode cX11_fewest 126 = .ok (.iload_n 2, 1) := kq.at kqdX11_fewest_90 22 rfl
theorem dX11_fewest_127 : decode cX11_fewest 127 = .ok (.invokevirtual 239, 3) := kq.at kqdX11_fewest_90 23 rfl
theorem kqdX11_fewest_130 : kq cX11_fewest [(130, .invokestatic 285, 3), (133, .aload_n 0, 1), (134, .getfield 7, 3), (137, .bipush 6, 2), (139, .iaload, 1), (140, .invokevirtual 288, 3), (143, .invokevirtual 300, 3), (146, .iload_n 2, 1), (147, .ifCond .eq 16, 3), (150, .aload_n 0, 1), (151, .iload_n 2, 1), (152, .iconst 1, 1), (153, .isub, 1), (154, .invokevirtual 239, 3), (157, .invokestatic 276, 3), (160, .ifCond .ne 7, 3), (163, .iconst 1, 1), (164, .goto 4, 3), (167, .iconst 0, 1), (168, .iadd, 1), (169, .iadd, 1), (170, .istore_n 1, 1), (171, .iinc 2 1, 3), (174, .goto (-107), 3)] = true := by decide +kernel
theorem dX11_fewest_130 : decode cX11_fewest 130 = .ok (.invokestatic 285, 3) := kq.at kqdX11_fewest_130 0 rfl
theorem dX11_fewest_133 : decode cX11_fewest 133 = .ok (.aload_n 0, 1) := kq.at kqdX11_fewest_130 1 rfl
theorem dX11_fewest_134 : decode cX11_fewest 134 = .ok (.getfield 7, 3) := kq.at kqdX11_fewest_130 2 rfl
theorem dX11_fewest_137 : decode cX11_fewest 137 = .ok (.bipush 6, 2) := kq.at kqdX11_fewest_130 3 rfl
theorem dX11_fewest_139 : decode cX11_fewest 139 = .ok (.iaload, 1) := kq.at kqdX11_fewest_130 4 rfl
theorem dX11_fewest_140 : decode cX11_fewest 140 = .ok (.invokevirtual 288, 3) := kq.at kqdX11_fewest_130 5 rfl
theorem dX11_fewest_143 : decode cX11_fewest 143 = .ok (.invokevirtual 300, 3) := kq.at kqdX11_fewest_130 6 rfl
theorem dX11_fewest_146 : decode cX11_fewest 146 = .ok (.iload_n 2, 1) := kq.at kqdX11_fewest_130 7 rfl
theorem dX11_fewest_147 : decode cX11_fewest 147 = .ok (.ifCond .eq 16, 3) := kq.at kqdX11_fewest_130 8 rfl
theorem dX11_fewest_150 : decode cX11_fewest 150 = .ok (.aload_n 0, 1) := kq.at kqdX11_fewest_130 9 rfl
theorem dX11_fewest_151 : decode cX11_fewest 151 = .ok (.iload_n 2, 1) := kq.at kqdX11_fewest_130 10 rfl
theorem dX11_fewest_152 : decode cX11_fewest 152 = .ok (.iconst 1, 1) := kq.at kqdX11_fewest_130 11 rfl
theorem dX11_fewest_153 : decode cX11_fewest 153 = .ok (.isub, 1) := kq.at kqdX11_fewest_130 12 rfl
theorem dX11_fewest_154 : decode cX11_fewest 154 = .ok (.invokevirtual 239, 3) := kq.at kqdX11_fewest_130 13 rfl
theorem dX11_fewest_157 : decode cX11_fewest 157 = .ok (.invokestatic 276, 3) := kq.at kqdX11_fewest_130 14 rfl
theorem dX11_fewest_160 : decode cX11_fewest 160 = .ok (.ifCond .ne 7, 3) := kq.at kqdX11_fewest_130 15 rfl
theorem dX11_fewest_163 : decode cX11_fewest 163 = .ok (.iconst 1, 1) := kq.at kqdX11_fewest_130 16 rfl
theorem dX11_fewest_164 : decode cX11_fewest 164 = .ok (.goto 4, 3) := kq.at kqdX11_fewest_130 17 rfl
theorem dX11_fewest_167 : decode cX11_fewest 167 = .ok (.iconst 0, 1) := kq.at kqdX11_fewest_130 18 rfl
theorem dX11_fewest_168 : decode cX11_fewest 168 = .ok (.iadd, 1) := kq.at kqdX11_fewest_130 19 rfl
theorem dX11_fewest_169 : decode cX11_fewest 169 = .ok (.iadd, 1) := kq.at kqdX11_fewest_130 20 rfl
theorem dX11_fewest_170 : decode cX11_fewest 170 = .ok (.istore_n 1, 1) := kq.at kqdX11_fewest_130 21 rfl
theorem dX11_fewest_171 : decode cX11_fewest 171 = .ok (.iinc 2 1, 3) := kq.at kqdX11_fewest_130 22 rfl
theorem dX11_fewest_174 : decode cX11_fewest 174 = .ok (.goto (-107), 3) := kq.at kqdX11_fewest_130 23 rfl
theorem kqdX11_fewest_177 : kq cX11_fewest [(177, .aload_n 0, 1), (178, .iload_n 1, 1), (179, .invokevirtual 191, 3), (182, .ireturn, 1)] = true := by decide +kernel
theorem dX11_fewest_177 : decode cX11_fewest 177 = .ok (.aload_n 0, 1) := kq.at kqdX11_fewest_177 0 rfl
theorem dX11_fewest_178 : decode cX11_fewest 178 = .ok (.iload_n 1, 1) := kq.at kqdX11_fewest_177 1 rfl
theorem dX11_fewest_179 : decode cX11_fewest 179 = .ok (.invokevirtual 191, 3) := kq.at kqdX11_fewest_177 2 rfl
theorem dX11_fewest_182 : decode cX11_fewest 182 = .ok (.ireturn, 1) := kq.at kqdX11_fewest_177 3 rfl
theorem kqdX11_takesBy_0 : kq cX11_takesBy [(0, .aload_n 0, 1), (1, .invokevirtual 309, 3), (4, .aload_n 0, 1), (5, .iload_n 1, 1), (6, .invokevirtual 291, 3), (9, .ifCond .eq 14, 3), (12, .aload_n 0, 1), (13, .getfield 7, 3), (16, .sipush 16508, 3), (19, .iaload, 1), (20, .goto 4, 3), (23, .iconst (-1), 1), (24, .ireturn, 1)] = true := by decide +kernel
theorem dX11_takesBy_0 : decode cX11_takesBy 0 = .ok (.aload_n 0, 1) := kq.at kqdX11_takesBy_0 0 rfl
theorem dX11_takesBy_1 : decode cX11_takesBy 1 = .ok (.invokevirtual 309, 3) := kq.at kqdX11_takesBy_0 1 rfl
theorem dX11_takesBy_4 : decode cX11_takesBy 4 = .ok (.aload_n 0, 1) := kq.at kqdX11_takesBy_0 2 rfl
theorem dX11_takesBy_5 : decode cX11_takesBy 5 = .ok (.iload_n 1, 1) := kq.at kqdX11_takesBy_0 3 rfl
theorem dX11_takesBy_6 : decode cX11_takesBy 6 = .ok (.invokevirtual 291, 3) := kq.at kqdX11_takesBy_0 4 rfl
theorem dX11_takesBy_9 : decode cX11_takesBy 9 = .ok (.ifCond .eq 14, 3) := kq.at kqdX11_takesBy_0 5 rfl
theorem dX11_takesBy_12 : decode cX11_takesBy 12 = .ok (.aload_n 0, 1) := kq.at kqdX11_takesBy_0 6 rfl
theorem dX11_takesBy_13 : decode cX11_takesBy 13 = .ok (.getfield 7, 3) := kq.at kqdX11_takesBy_0 7 rfl
theorem dX11_takesBy_16 : decode cX11_takesBy 16 = .ok (.sipush 16508, 3) := kq.at kqdX11_takesBy_0 8 rfl
theorem dX11_takesBy_19 : decode cX11_takesBy 19 = .ok (.iaload, 1) := kq.at kqdX11_takesBy_0 9 rfl
theorem dX11_takesBy_20 : decode cX11_takesBy 20 = .ok (.goto 4, 3) := kq.at kqdX11_takesBy_0 10 rfl
theorem dX11_takesBy_23 : decode cX11_takesBy 23 = .ok (.iconst (-1), 1) := kq.at kqdX11_takesBy_0 11 rfl
theorem dX11_takesBy_24 : decode cX11_takesBy 24 = .ok (.ireturn, 1) := kq.at kqdX11_takesBy_0 12 rfl
theorem kqdX11_saving_0 : kq cX11_saving [(0, .aload_n 0, 1), (1, .iload_n 1, 1), (2, .invokevirtual 297, 3), (5, .ifCond .ne 9, 3), (8, .aload_n 0, 1), (9, .iconst 1, 1), (10, .invokevirtual 188, 3), (13, .ireturn, 1), (14, .aload_n 0, 1), (15, .invokevirtual 306, 3), (18, .ifCond .ne 10, 3), (21, .aload_n 0, 1), (22, .bipush 6, 2), (24, .invokevirtual 188, 3), (27, .ireturn, 1), (28, .aload_n 0, 1), (29, .aload_n 0, 1), (30, .getfield 7, 3), (33, .bipush 6, 2), (35, .iaload, 1), (36, .invokevirtual 366, 3), (39, .istore_n 2, 1), (40, .aload_n 0, 1), (41, .aload_n 0, 1)] = true := by decide +kernel
theorem dX11_saving_0 : decode cX11_saving 0 = .ok (.aload_n 0, 1) := kq.at kqdX11_saving_0 0 rfl
theorem dX11_saving_1 : decode cX11_saving 1 = .ok (.iload_n 1, 1) := kq.at kqdX11_saving_0 1 rfl
theorem dX11_saving_2 : decode cX11_saving 2 = .ok (.invokevirtual 297, 3) := kq.at kqdX11_saving_0 2 rfl
theorem dX11_saving_5 : decode cX11_saving 5 = .ok (.ifCond .ne 9, 3) := kq.at kqdX11_saving_0 3 rfl
theorem dX11_saving_8 : decode cX11_saving 8 = .ok (.aload_n 0, 1) := kq.at kqdX11_saving_0 4 rfl
theorem dX11_saving_9 : decode cX11_saving 9 = .ok (.iconst 1, 1) := kq.at kqdX11_saving_0 5 rfl
theorem dX11_saving_10 : decode cX11_saving 10 = .ok (.invokevirtual 188, 3) := kq.at kqdX11_saving_0 6 rfl
theorem dX11_saving_13 : decode cX11_saving 13 = .ok (.ireturn, 1) := kq.at kqdX11_saving_0 7 rfl
theorem dX11_saving_14 : decode cX11_saving 14 = .ok (.aload_n 0, 1) := kq.at kqdX11_saving_0 8 rfl
theorem dX11_saving_15 : decode cX11_saving 15 = .ok (.invokevirtual 306, 3) := kq.at kqdX11_saving_0 9 rfl
theorem dX11_saving_18 : decode cX11_saving 18 = .ok (.ifCond .ne 10, 3) := kq.at kqdX11_saving_0 10 rfl
theorem dX11_saving_21 : decode cX11_saving 21 = .ok (.aload_n 0, 1) := kq.at kqdX11_saving_0 11 rfl
theorem dX11_saving_22 : decode cX11_saving 22 = .ok (.bipush 6, 2) := kq.at kqdX11_saving_0 12 rfl
theorem dX11_saving_24 : decode cX11_saving 24 = .ok (.invokevirtual 188, 3) := kq.at kqdX11_saving_0 13 rfl
theorem dX11_saving_27 : decode cX11_saving 27 = .ok (.ireturn, 1) := kq.at kqdX11_saving_0 14 rfl
theorem dX11_saving_28 : decode cX11_saving 28 = .ok (.aload_n 0, 1) := kq.at kqdX11_saving_0 15 rfl
theorem dX11_saving_29 : decode cX11_saving 29 = .ok (.aload_n 0, 1) := kq.at kqdX11_saving_0 16 rfl
theorem dX11_saving_30 : decode cX11_saving 30 = .ok (.getfield 7, 3) := kq.at kqdX11_saving_0 17 rfl
theorem dX11_saving_33 : decode cX11_saving 33 = .ok (.bipush 6, 2) := kq.at kqdX11_saving_0 18 rfl
theorem dX11_saving_35 : decode cX11_saving 35 = .ok (.iaload, 1) := kq.at kqdX11_saving_0 19 rfl
theorem dX11_saving_36 : decode cX11_saving 36 = .ok (.invokevirtual 366, 3) := kq.at kqdX11_saving_0 20 rfl
theorem dX11_saving_39 : decode cX11_saving 39 = .ok (.istore_n 2, 1) := kq.at kqdX11_saving_0 21 rfl
theorem dX11_saving_40 : decode cX11_saving 40 = .ok (.aload_n 0, 1) := kq.at kqdX11_saving_0 22 rfl
theorem dX11_saving_41 : decode cX11_saving 41 = .ok (.aload_n 0, 1) := kq.at kqdX11_saving_0 23 rfl
theorem kqdX11_saving_42 : kq cX11_saving [(42, .getfield 7, 3), (45, .bipush 6, 2), (47, .iaload, 1), (48, .iconst 1, 1), (49, .iload_n 1, 1), (50, .ishl, 1), (51, .ior, 1), (52, .invokevirtual 366, 3), (55, .istore_n 3, 1), (56, .iload_n 2, 1), (57, .iconst (-1), 1), (58, .if_icmp .eq 8, 3), (61, .iload_n 3, 1), (62, .iconst (-1), 1), (63, .if_icmp .ne 12, 3), (66, .aload_n 0, 1), (67, .bipush 7, 2), (69, .invokevirtual 188, 3), (72, .goto 10, 3), (75, .aload_n 0, 1), (76, .iload_n 3, 1), (77, .iload_n 2, 1), (78, .isub, 1), (79, .invokevirtual 191, 3)] = true := by decide +kernel
theorem dX11_saving_42 : decode cX11_saving 42 = .ok (.getfield 7, 3) := kq.at kqdX11_saving_42 0 rfl
theorem dX11_saving_45 : decode cX11_saving 45 = .ok (.bipush 6, 2) := kq.at kqdX11_saving_42 1 rfl
theorem dX11_saving_47 : decode cX11_saving 47 = .ok (.iaload, 1) := kq.at kqdX11_saving_42 2 rfl
theorem dX11_saving_48 : decode cX11_saving 48 = .ok (.iconst 1, 1) := kq.at kqdX11_saving_42 3 rfl
theorem dX11_saving_49 : decode cX11_saving 49 = .ok (.iload_n 1, 1) := kq.at kqdX11_saving_42 4 rfl
theorem dX11_saving_50 : decode cX11_saving 50 = .ok (.ishl, 1) := kq.at kqdX11_saving_42 5 rfl
theorem dX11_saving_51 : decode cX11_saving 51 = .ok (.ior, 1) := kq.at kqdX11_saving_42 6 rfl
theorem dX11_saving_52 : decode cX11_saving 52 = .ok (.invokevirtual 366, 3) := kq.at kqdX11_saving_42 7 rfl
theorem dX11_saving_55 : decode cX11_saving 55 = .ok (.istore_n 3, 1) := kq.at kqdX11_saving_42 8 rfl
theorem dX11_saving_56 : decode cX11_saving 56 = .ok (.iload_n 2, 1) := kq.at kqdX11_saving_42 9 rfl
theorem dX11_saving_57 : decode cX11_saving 57 = .ok (.iconst (-1), 1) := kq.at kqdX11_saving_42 10 rfl
theorem dX11_saving_58 : decode cX11_saving 58 = .ok (.if_icmp .eq 8, 3) := kq.at kqdX11_saving_42 11 rfl
theorem dX11_saving_61 : decode cX11_saving 61 = .ok (.iload_n 3, 1) := kq.at kqdX11_saving_42 12 rfl
theorem dX11_saving_62 : decode cX11_saving 62 = .ok (.iconst (-1), 1) := kq.at kqdX11_saving_42 13 rfl
theorem dX11_saving_63 : decode cX11_saving 63 = .ok (.if_icmp .ne 12, 3) := kq.at kqdX11_saving_42 14 rfl
theorem dX11_saving_66 : decode cX11_saving 66 = .ok (.aload_n 0, 1) := kq.at kqdX11_saving_42 15 rfl
theorem dX11_saving_67 : decode cX11_saving 67 = .ok (.bipush 7, 2) := kq.at kqdX11_saving_42 16 rfl
theorem dX11_saving_69 : decode cX11_saving 69 = .ok (.invokevirtual 188, 3) := kq.at kqdX11_saving_42 17 rfl
theorem dX11_saving_72 : decode cX11_saving 72 = .ok (.goto 10, 3) := kq.at kqdX11_saving_42 18 rfl
theorem dX11_saving_75 : decode cX11_saving 75 = .ok (.aload_n 0, 1) := kq.at kqdX11_saving_42 19 rfl
theorem dX11_saving_76 : decode cX11_saving 76 = .ok (.iload_n 3, 1) := kq.at kqdX11_saving_42 20 rfl
theorem dX11_saving_77 : decode cX11_saving 77 = .ok (.iload_n 2, 1) := kq.at kqdX11_saving_42 21 rfl
theorem dX11_saving_78 : decode cX11_saving 78 = .ok (.isub, 1) := kq.at kqdX11_saving_42 22 rfl
theorem dX11_saving_79 : decode cX11_saving 79 = .ok (.invokevirtual 191, 3) := kq.at kqdX11_saving_42 23 rfl
theorem dX11_saving_82 : decode cX11_saving 82 = .ok (.ireturn, 1) := by decide +kernel
theorem kqdX11_cheapest_0 : kq cX11_cheapest [(0, .aload_n 0, 1), (1, .invokevirtual 306, 3), (4, .ifCond .ne 10, 3), (7, .aload_n 0, 1), (8, .bipush 6, 2), (10, .invokevirtual 188, 3), (13, .ireturn, 1), (14, .aload_n 0, 1), (15, .aload_n 0, 1), (16, .getfield 7, 3), (19, .bipush 6, 2), (21, .iaload, 1), (22, .invokevirtual 366, 3), (25, .iconst (-1), 1), (26, .if_icmp .ne 10, 3), (29, .aload_n 0, 1), (30, .bipush 7, 2), (32, .invokevirtual 188, 3), (35, .ireturn, 1), (36, .iconst (-1), 1), (37, .istore_n 1, 1), (38, .iconst 0, 1), (39, .istore_n 2, 1), (40, .iconst 0, 1)] = true := by decide +kernel
theorem dX11_cheapest_0 : decode cX11_cheapest 0 = .ok (.aload_n 0, 1) := kq.at kqdX11_cheapest_0 0 rfl
theorem dX11_cheapest_1 : decode cX11_cheapest 1 = .ok (.invokevirtual 306, 3) := kq.at kqdX11_cheapest_0 1 rfl
theorem dX11_cheapest_4 : decode cX11_cheapest 4 = .ok (.ifCond .ne 10, 3) := kq.at kqdX11_cheapest_0 2 rfl
theorem dX11_cheapest_7 : decode cX11_cheapest 7 = .ok (.aload_n 0, 1) := kq.at kqdX11_cheapest_0 3 rfl
theorem dX11_cheapest_8 : decode cX11_cheapest 8 = .ok (.bipush 6, 2) := kq.at kqdX11_cheapest_0 4 rfl
theorem dX11_cheapest_10 : decode cX11_cheapest 10 = .ok (.invokevirtual 188, 3) := kq.at kqdX11_cheapest_0 5 rfl
theorem dX11_cheapest_13 : decode cX11_cheapest 13 = .ok (.ireturn, 1) := kq.at kqdX11_cheapest_0 6 rfl
theorem dX11_cheapest_14 : decode cX11_cheapest 14 = .ok (.aload_n 0, 1) := kq.at kqdX11_cheapest_0 7 rfl
theorem dX11_cheapest_15 : decode cX11_cheapest 15 = .ok (.aload_n 0, 1) := kq.at kqdX11_cheapest_0 8 rfl
theorem dX11_cheapest_16 : decode cX11_cheapest 16 = .ok (.getfield 7, 3) := kq.at kqdX11_cheapest_0 9 rfl
theorem dX11_cheapest_19 : decode cX11_cheapest 19 = .ok (.bipush 6, 2) := kq.at kqdX11_cheapest_0 10 rfl
theorem dX11_cheapest_21 : decode cX11_cheapest 21 = .ok (.iaload, 1) := kq.at kqdX11_cheapest_0 11 rfl
theorem dX11_cheapest_22 : decode cX11_cheapest 22 = .ok (.invokevirtual 366, 3) := kq.at kqdX11_cheapest_0 12 rfl
theorem dX11_cheapest_25 : decode cX11_cheapest 25 = .ok (.iconst (-1), 1) := kq.at kqdX11_cheapest_0 13 rfl
theorem dX11_cheapest_26 : decode cX11_cheapest 26 = .ok (.if_icmp .ne 10, 3) := kq.at kqdX11_cheapest_0 14 rfl
theorem dX11_cheapest_29 : decode cX11_cheapest 29 = .ok (.aload_n 0, 1) := kq.at kqdX11_cheapest_0 15 rfl
theorem dX11_cheapest_30 : decode cX11_cheapest 30 = .ok (.bipush 7, 2) := kq.at kqdX11_cheapest_0 16 rfl
theorem dX11_cheapest_32 : decode cX11_cheapest 32 = .ok (.invokevirtual 188, 3) := kq.at kqdX11_cheapest_0 17 rfl
theorem dX11_cheapest_35 : decode cX11_cheapest 35 = .ok (.ireturn, 1) := kq.at kqdX11_cheapest_0 18 rfl
theorem dX11_cheapest_36 : decode cX11_cheapest 36 = .ok (.iconst (-1), 1) := kq.at kqdX11_cheapest_0 19 rfl
theorem dX11_cheapest_37 : decode cX11_cheapest 37 = .ok (.istore_n 1, 1) := kq.at kqdX11_cheapest_0 20 rfl
theorem dX11_cheapest_38 : decode cX11_cheapest 38 = .ok (.iconst 0, 1) := kq.at kqdX11_cheapest_0 21 rfl
theorem dX11_cheapest_39 : decode cX11_cheapest 39 = .ok (.istore_n 2, 1) := kq.at kqdX11_cheapest_0 22 rfl
theorem dX11_cheapest_40 : decode cX11_cheapest 40 = .ok (.iconst 0, 1) := kq.at kqdX11_cheapest_0 23 rfl
theorem kqdX11_cheapest_41 : kq cX11_cheapest [(41, .istore_n 3, 1), (42, .iload_n 3, 1), (43, .aload_n 0, 1), (44, .getfield 7, 3), (47, .iconst 0, 1), (48, .iaload, 1), (49, .if_icmp .ge 68, 3), (52, .aload_n 0, 1), (53, .getfield 7, 3), (56, .bipush 6, 2), (58, .iaload, 1), (59, .iload_n 3, 1), (60, .invokestatic 249, 3), (63, .ifCond .eq 6, 3), (66, .goto 45, 3), (69, .aload_n 0, 1), (70, .aload_n 0, 1), (71, .getfield 7, 3), (74, .bipush 6, 2), (76, .iaload, 1), (77, .iconst 1, 1), (78, .iload_n 3, 1), (79, .ishl, 1), (80, .ior, 1)] = true := by decide +kernel
theorem dX11_cheapest_41 : decode cX11_cheapest 41 = .ok (.istore_n 3, 1) := kq.at kqdX11_cheapest_41 0 rfl
theorem dX11_cheapest_42 : decode cX11_cheapest 42 = .ok (.iload_n 3, 1) := kq.at kqdX11_cheapest_41 1 rfl
theorem dX11_cheapest_43 : decode cX11_cheapest 43 = .ok (.aload_n 0, 1) := kq.at kqdX11_cheapest_41 2 rfl
theorem dX11_cheapest_44 : decode cX11_cheapest 44 = .ok (.getfield 7, 3) := kq.at kqdX11_cheapest_41 3 rfl
theorem dX11_cheapest_47 : decode cX11_cheapest 47 = .ok (.iconst 0, 1) := kq.at kqdX11_cheapest_41 4 rfl
theorem dX11_cheapest_48 : decode cX11_cheapest 48 = .ok (.iaload, 1) := kq.at kqdX11_cheapest_41 5 rfl
theorem dX11_cheapest_49 : decode cX11_cheapest 49 = .ok (.if_icmp .ge 68, 3) := kq.at kqdX11_cheapest_41 6 rfl
theorem dX11_cheapest_52 : decode cX11_cheapest 52 = .ok (.aload_n 0, 1) := kq.at kqdX11_cheapest_41 7 rfl
theorem dX11_cheapest_53 : decode cX11_cheapest 53 = .ok (.getfield 7, 3) := kq.at kqdX11_cheapest_41 8 rfl
theorem dX11_cheapest_56 : decode cX11_cheapest 56 = .ok (.bipush 6, 2) := kq.at kqdX11_cheapest_41 9 rfl
theorem dX11_cheapest_58 : decode cX11_cheapest 58 = .ok (.iaload, 1) := kq.at kqdX11_cheapest_41 10 rfl
theorem dX11_cheapest_59 : decode cX11_cheapest 59 = .ok (.iload_n 3, 1) := kq.at kqdX11_cheapest_41 11 rfl
theorem dX11_cheapest_60 : decode cX11_cheapest 60 = .ok (.invokestatic 249, 3) := kq.at kqdX11_cheapest_41 12 rfl
theorem dX11_cheapest_63 : decode cX11_cheapest 63 = .ok (.ifCond .eq 6, 3) := kq.at kqdX11_cheapest_41 13 rfl
theorem dX11_cheapest_66 : decode cX11_cheapest 66 = .ok (.goto 45, 3) := kq.at kqdX11_cheapest_41 14 rfl
theorem dX11_cheapest_69 : decode cX11_cheapest 69 = .ok (.aload_n 0, 1) := kq.at kqdX11_cheapest_41 15 rfl
theorem dX11_cheapest_70 : decode cX11_cheapest 70 = .ok (.aload_n 0, 1) := kq.at kqdX11_cheapest_41 16 rfl
theorem dX11_cheapest_71 : decode cX11_cheapest 71 = .ok (.getfield 7, 3) := kq.at kqdX11_cheapest_41 17 rfl
theorem dX11_cheapest_74 : decode cX11_cheapest 74 = .ok (.bipush 6, 2) := kq.at kqdX11_cheapest_41 18 rfl
theorem dX11_cheapest_76 : decode cX11_cheapest 76 = .ok (.iaload, 1) := kq.at kqdX11_cheapest_41 19 rfl
theorem dX11_cheapest_77 : decode cX11_cheapest 77 = .ok (.iconst 1, 1) := kq.at kqdX11_cheapest_41 20 rfl
theorem dX11_cheapest_78 : decode cX11_cheapest 78 = .ok (.iload_n 3, 1) := kq.at kqdX11_cheapest_41 21 rfl
theorem dX11_cheapest_79 : decode cX11_cheapest 79 = .ok (.ishl, 1) := kq.at kqdX11_cheapest_41 22 rfl
theorem dX11_cheapest_80 : decode cX11_cheapest 80 = .ok (.ior, 1) := kq.at kqdX11_cheapest_41 23 rfl
theorem kqdX11_cheapest_81 : kq cX11_cheapest [(81, .invokevirtual 366, 3), (84, .istore 4, 2), (86, .iload 4, 2), (88, .iconst (-1), 1), (89, .if_icmp .eq 22, 3), (92, .iload_n 1, 1), (93, .iconst (-1), 1), (94, .if_icmp .eq 12, 3), (97, .iload 4, 2), (99, .iload_n 2, 1), (100, .if_icmp .lt 6, 3), (103, .goto 8, 3), (106, .iload 4, 2), (108, .istore_n 2, 1), (109, .iload_n 3, 1), (110, .istore_n 1, 1), (111, .iinc 3 1, 3), (114, .goto (-72), 3), (117, .iload_n 1, 1), (118, .iconst (-1), 1), (119, .if_icmp .ne 12, 3), (122, .aload_n 0, 1), (123, .bipush 6, 2), (125, .invokevirtual 188, 3)] = true := by decide +kernel
theorem dX11_cheapest_81 : decode cX11_cheapest 81 = .ok (.invokevirtual 366, 3) := kq.at kqdX11_cheapest_81 0 rfl
theorem dX11_cheapest_84 : decode cX11_cheapest 84 = .ok (.istore 4, 2) := kq.at kqdX11_cheapest_81 1 rfl
theorem dX11_cheapest_86 : decode cX11_cheapest 86 = .ok (.iload 4, 2) := kq.at kqdX11_cheapest_81 2 rfl
theorem dX11_cheapest_88 : decode cX11_cheapest 88 = .ok (.iconst (-1), 1) := kq.at kqdX11_cheapest_81 3 rfl
theorem dX11_cheapest_89 : decode cX11_cheapest 89 = .ok (.if_icmp .eq 22, 3) := kq.at kqdX11_cheapest_81 4 rfl
theorem dX11_cheapest_92 : decode cX11_cheapest 92 = .ok (.iload_n 1, 1) := kq.at kqdX11_cheapest_81 5 rfl
theorem dX11_cheapest_93 : decode cX11_cheapest 93 = .ok (.iconst (-1), 1) := kq.at kqdX11_cheapest_81 6 rfl
theorem dX11_cheapest_94 : decode cX11_cheapest 94 = .ok (.if_icmp .eq 12, 3) := kq.at kqdX11_cheapest_81 7 rfl
theorem dX11_cheapest_97 : decode cX11_cheapest 97 = .ok (.iload 4, 2) := kq.at kqdX11_cheapest_81 8 rfl
theorem dX11_cheapest_99 : decode cX11_cheapest 99 = .ok (.iload_n 2, 1) := kq.at kqdX11_cheapest_81 9 rfl
theorem dX11_cheapest_100 : decode cX11_cheapest 100 = .ok (.if_icmp .lt 6, 3) := kq.at kqdX11_cheapest_81 10 rfl
theorem dX11_cheapest_103 : decode cX11_cheapest 103 = .ok (.goto 8, 3) := kq.at kqdX11_cheapest_81 11 rfl
theorem dX11_cheapest_106 : decode cX11_cheapest 106 = .ok (.iload 4, 2) := kq.at kqdX11_cheapest_81 12 rfl
theorem dX11_cheapest_108 : decode cX11_cheapest 108 = .ok (.istore_n 2, 1) := kq.at kqdX11_cheapest_81 13 rfl
theorem dX11_cheapest_109 : decode cX11_cheapest 109 = .ok (.iload_n 3, 1) := kq.at kqdX11_cheapest_81 14 rfl
theorem dX11_cheapest_110 : decode cX11_cheapest 110 = .ok (.istore_n 1, 1) := kq.at kqdX11_cheapest_81 15 rfl
theorem dX11_cheapest_111 : decode cX11_cheapest 111 = .ok (.iinc 3 1, 3) := kq.at kqdX11_cheapest_81 16 rfl
theorem dX11_cheapest_114 : decode cX11_cheapest 114 = .ok (.goto (-72), 3) := kq.at kqdX11_cheapest_81 17 rfl
theorem dX11_cheapest_117 : decode cX11_cheapest 117 = .ok (.iload_n 1, 1) := kq.at kqdX11_cheapest_81 18 rfl
theorem dX11_cheapest_118 : decode cX11_cheapest 118 = .ok (.iconst (-1), 1) := kq.at kqdX11_cheapest_81 19 rfl
theorem dX11_cheapest_119 : decode cX11_cheapest 119 = .ok (.if_icmp .ne 12, 3) := kq.at kqdX11_cheapest_81 20 rfl
theorem dX11_cheapest_122 : decode cX11_cheapest 122 = .ok (.aload_n 0, 1) := kq.at kqdX11_cheapest_81 21 rfl
theorem dX11_cheapest_123 : decode cX11_cheapest 123 = .ok (.bipush 6, 2) := kq.at kqdX11_cheapest_81 22 rfl
theorem dX11_cheapest_125 : decode cX11_cheapest 125 = .ok (.invokevirtual 188, 3) := kq.at kqdX11_cheapest_81 23 rfl
theorem kqdX11_cheapest_128 : kq cX11_cheapest [(128, .goto 8, 3), (131, .aload_n 0, 1), (132, .iload_n 1, 1), (133, .invokevirtual 191, 3), (136, .ireturn, 1)] = true := by decide +kernel
theorem dX11_cheapest_128 : decode cX11_cheapest 128 = .ok (.goto 8, 3) := kq.at kqdX11_cheapest_128 0 rfl
theorem dX11_cheapest_131 : decode cX11_cheapest 131 = .ok (.aload_n 0, 1) := kq.at kqdX11_cheapest_128 1 rfl
theorem dX11_cheapest_132 : decode cX11_cheapest 132 = .ok (.iload_n 1, 1) := kq.at kqdX11_cheapest_128 2 rfl
theorem dX11_cheapest_133 : decode cX11_cheapest 133 = .ok (.invokevirtual 191, 3) := kq.at kqdX11_cheapest_128 3 rfl
theorem dX11_cheapest_136 : decode cX11_cheapest 136 = .ok (.ireturn, 1) := kq.at kqdX11_cheapest_128 4 rfl
theorem kqdX11_wrongRow_0 : kq cX11_wrongRow [(0, .iload_n 1, 1), (1, .invokestatic 109, 3), (4, .ifCond .eq 14, 3), (7, .iload_n 2, 1), (8, .iconst 1, 1), (9, .if_icmp .lt 9, 3), (12, .iload_n 2, 1), (13, .bipush 20, 2), (15, .if_icmp .le 5, 3), (18, .iconst 1, 1), (19, .ireturn, 1), (20, .aload_n 0, 1), (21, .getfield 20, 3), (24, .iload_n 1, 1), (25, .iaload, 1), (26, .iconst (-1), 1), (27, .if_icmp .ne 5, 3), (30, .iconst 2, 1), (31, .ireturn, 1), (32, .aload_n 0, 1), (33, .getfield 20, 3), (36, .iload_n 1, 1), (37, .iaload, 1), (38, .iload_n 2, 1)] = true := by decide +kernel
theorem dX11_wrongRow_0 : decode cX11_wrongRow 0 = .ok (.iload_n 1, 1) := kq.at kqdX11_wrongRow_0 0 rfl
theorem dX11_wrongRow_1 : decode cX11_wrongRow 1 = .ok (.invokestatic 109, 3) := kq.at kqdX11_wrongRow_0 1 rfl
theorem dX11_wrongRow_4 : decode cX11_wrongRow 4 = .ok (.ifCond .eq 14, 3) := kq.at kqdX11_wrongRow_0 2 rfl
theorem dX11_wrongRow_7 : decode cX11_wrongRow 7 = .ok (.iload_n 2, 1) := kq.at kqdX11_wrongRow_0 3 rfl
theorem dX11_wrongRow_8 : decode cX11_wrongRow 8 = .ok (.iconst 1, 1) := kq.at kqdX11_wrongRow_0 4 rfl
theorem dX11_wrongRow_9 : decode cX11_wrongRow 9 = .ok (.if_icmp .lt 9, 3) := kq.at kqdX11_wrongRow_0 5 rfl
theorem dX11_wrongRow_12 : decode cX11_wrongRow 12 = .ok (.iload_n 2, 1) := kq.at kqdX11_wrongRow_0 6 rfl
theorem dX11_wrongRow_13 : decode cX11_wrongRow 13 = .ok (.bipush 20, 2) := kq.at kqdX11_wrongRow_0 7 rfl
theorem dX11_wrongRow_15 : decode cX11_wrongRow 15 = .ok (.if_icmp .le 5, 3) := kq.at kqdX11_wrongRow_0 8 rfl
theorem dX11_wrongRow_18 : decode cX11_wrongRow 18 = .ok (.iconst 1, 1) := kq.at kqdX11_wrongRow_0 9 rfl
theorem dX11_wrongRow_19 : decode cX11_wrongRow 19 = .ok (.ireturn, 1) := kq.at kqdX11_wrongRow_0 10 rfl
theorem dX11_wrongRow_20 : decode cX11_wrongRow 20 = .ok (.aload_n 0, 1) := kq.at kqdX11_wrongRow_0 11 rfl
theorem dX11_wrongRow_21 : decode cX11_wrongRow 21 = .ok (.getfield 20, 3) := kq.at kqdX11_wrongRow_0 12 rfl
theorem dX11_wrongRow_24 : decode cX11_wrongRow 24 = .ok (.iload_n 1, 1) := kq.at kqdX11_wrongRow_0 13 rfl
theorem dX11_wrongRow_25 : decode cX11_wrongRow 25 = .ok (.iaload, 1) := kq.at kqdX11_wrongRow_0 14 rfl
theorem dX11_wrongRow_26 : decode cX11_wrongRow 26 = .ok (.iconst (-1), 1) := kq.at kqdX11_wrongRow_0 15 rfl
theorem dX11_wrongRow_27 : decode cX11_wrongRow 27 = .ok (.if_icmp .ne 5, 3) := kq.at kqdX11_wrongRow_0 16 rfl
theorem dX11_wrongRow_30 : decode cX11_wrongRow 30 = .ok (.iconst 2, 1) := kq.at kqdX11_wrongRow_0 17 rfl
theorem dX11_wrongRow_31 : decode cX11_wrongRow 31 = .ok (.ireturn, 1) := kq.at kqdX11_wrongRow_0 18 rfl
theorem dX11_wrongRow_32 : decode cX11_wrongRow 32 = .ok (.aload_n 0, 1) := kq.at kqdX11_wrongRow_0 19 rfl
theorem dX11_wrongRow_33 : decode cX11_wrongRow 33 = .ok (.getfield 20, 3) := kq.at kqdX11_wrongRow_0 20 rfl
theorem dX11_wrongRow_36 : decode cX11_wrongRow 36 = .ok (.iload_n 1, 1) := kq.at kqdX11_wrongRow_0 21 rfl
theorem dX11_wrongRow_37 : decode cX11_wrongRow 37 = .ok (.iaload, 1) := kq.at kqdX11_wrongRow_0 22 rfl
theorem dX11_wrongRow_38 : decode cX11_wrongRow 38 = .ok (.iload_n 2, 1) := kq.at kqdX11_wrongRow_0 23 rfl
theorem kqdX11_wrongRow_39 : kq cX11_wrongRow [(39, .if_icmp .ge 5, 3), (42, .iconst 3, 1), (43, .ireturn, 1), (44, .iconst 0, 1), (45, .istore 4, 2), (47, .iload 4, 2), (49, .iload_n 2, 1), (50, .if_icmp .ge 34, 3), (53, .aload_n 0, 1), (54, .getfield 23, 3), (57, .bipush 60, 2), (59, .iload_n 1, 1), (60, .imul, 1), (61, .iload 4, 2), (63, .iadd, 1), (64, .laload, 1), (65, .iload_n 3, 1), (66, .i2l, 1), (67, .ldc2_w 348, 3), (70, .invokestatic 341, 3), (73, .ifCond .ne 5, 3), (76, .iconst 5, 1), (77, .ireturn, 1), (78, .iinc 4 1, 3)] = true := by decide +kernel
theorem dX11_wrongRow_39 : decode cX11_wrongRow 39 = .ok (.if_icmp .ge 5, 3) := kq.at kqdX11_wrongRow_39 0 rfl
theorem dX11_wrongRow_42 : decode cX11_wrongRow 42 = .ok (.iconst 3, 1) := kq.at kqdX11_wrongRow_39 1 rfl
theorem dX11_wrongRow_43 : decode cX11_wrongRow 43 = .ok (.ireturn, 1) := kq.at kqdX11_wrongRow_39 2 rfl
theorem dX11_wrongRow_44 : decode cX11_wrongRow 44 = .ok (.iconst 0, 1) := kq.at kqdX11_wrongRow_39 3 rfl
theorem dX11_wrongRow_45 : decode cX11_wrongRow 45 = .ok (.istore 4, 2) := kq.at kqdX11_wrongRow_39 4 rfl
theorem dX11_wrongRow_47 : decode cX11_wrongRow 47 = .ok (.iload 4, 2) := kq.at kqdX11_wrongRow_39 5 rfl
theorem dX11_wrongRow_49 : decode cX11_wrongRow 49 = .ok (.iload_n 2, 1) := kq.at kqdX11_wrongRow_39 6 rfl
theorem dX11_wrongRow_50 : decode cX11_wrongRow 50 = .ok (.if_icmp .ge 34, 3) := kq.at kqdX11_wrongRow_39 7 rfl
theorem dX11_wrongRow_53 : decode cX11_wrongRow 53 = .ok (.aload_n 0, 1) := kq.at kqdX11_wrongRow_39 8 rfl
theorem dX11_wrongRow_54 : decode cX11_wrongRow 54 = .ok (.getfield 23, 3) := kq.at kqdX11_wrongRow_39 9 rfl
theorem dX11_wrongRow_57 : decode cX11_wrongRow 57 = .ok (.bipush 60, 2) := kq.at kqdX11_wrongRow_39 10 rfl
theorem dX11_wrongRow_59 : decode cX11_wrongRow 59 = .ok (.iload_n 1, 1) := kq.at kqdX11_wrongRow_39 11 rfl
theorem dX11_wrongRow_60 : decode cX11_wrongRow 60 = .ok (.imul, 1) := kq.at kqdX11_wrongRow_39 12 rfl
theorem dX11_wrongRow_61 : decode cX11_wrongRow 61 = .ok (.iload 4, 2) := kq.at kqdX11_wrongRow_39 13 rfl
theorem dX11_wrongRow_63 : decode cX11_wrongRow 63 = .ok (.iadd, 1) := kq.at kqdX11_wrongRow_39 14 rfl
theorem dX11_wrongRow_64 : decode cX11_wrongRow 64 = .ok (.laload, 1) := kq.at kqdX11_wrongRow_39 15 rfl
theorem dX11_wrongRow_65 : decode cX11_wrongRow 65 = .ok (.iload_n 3, 1) := kq.at kqdX11_wrongRow_39 16 rfl
theorem dX11_wrongRow_66 : decode cX11_wrongRow 66 = .ok (.i2l, 1) := kq.at kqdX11_wrongRow_39 17 rfl
theorem dX11_wrongRow_67 : decode cX11_wrongRow 67 = .ok (.ldc2_w 348, 3) := kq.at kqdX11_wrongRow_39 18 rfl
theorem dX11_wrongRow_70 : decode cX11_wrongRow 70 = .ok (.invokestatic 341, 3) := kq.at kqdX11_wrongRow_39 19 rfl
theorem dX11_wrongRow_73 : decode cX11_wrongRow 73 = .ok (.ifCond .ne 5, 3) := kq.at kqdX11_wrongRow_39 20 rfl
theorem dX11_wrongRow_76 : decode cX11_wrongRow 76 = .ok (.iconst 5, 1) := kq.at kqdX11_wrongRow_39 21 rfl
theorem dX11_wrongRow_77 : decode cX11_wrongRow 77 = .ok (.ireturn, 1) := kq.at kqdX11_wrongRow_39 22 rfl
theorem dX11_wrongRow_78 : decode cX11_wrongRow 78 = .ok (.iinc 4 1, 3) := kq.at kqdX11_wrongRow_39 23 rfl
theorem kqdX11_wrongRow_81 : kq cX11_wrongRow [(81, .goto (-34), 3), (84, .iconst 0, 1), (85, .ireturn, 1)] = true := by decide +kernel
theorem dX11_wrongRow_81 : decode cX11_wrongRow 81 = .ok (.goto (-34), 3) := kq.at kqdX11_wrongRow_81 0 rfl
theorem dX11_wrongRow_84 : decode cX11_wrongRow 84 = .ok (.iconst 0, 1) := kq.at kqdX11_wrongRow_81 1 rfl
theorem dX11_wrongRow_85 : decode cX11_wrongRow 85 = .ok (.ireturn, 1) := kq.at kqdX11_wrongRow_81 2 rfl
theorem kqdX11_laysRow_0 : kq cX11_laysRow [(0, .iconst 0, 1), (1, .istore_n 3, 1), (2, .iload_n 3, 1), (3, .iload_n 2, 1), (4, .if_icmp .ge 34, 3), (7, .aload_n 0, 1), (8, .getfield 62, 3), (11, .iload_n 3, 1), (12, .aload_n 0, 1), (13, .getfield 23, 3), (16, .bipush 60, 2), (18, .iload_n 1, 1), (19, .imul, 1), (20, .iload_n 3, 1), (21, .iadd, 1), (22, .laload, 1), (23, .l2i, 1), (24, .iastore, 1), (25, .aload_n 0, 1), (26, .getfield 65, 3), (29, .iload_n 3, 1), (30, .iconst 0, 1), (31, .iastore, 1), (32, .iinc 3 1, 3)] = true := by decide +kernel
theorem dX11_laysRow_0 : decode cX11_laysRow 0 = .ok (.iconst 0, 1) := kq.at kqdX11_laysRow_0 0 rfl
theorem dX11_laysRow_1 : decode cX11_laysRow 1 = .ok (.istore_n 3, 1) := kq.at kqdX11_laysRow_0 1 rfl
theorem dX11_laysRow_2 : decode cX11_laysRow 2 = .ok (.iload_n 3, 1) := kq.at kqdX11_laysRow_0 2 rfl
theorem dX11_laysRow_3 : decode cX11_laysRow 3 = .ok (.iload_n 2, 1) := kq.at kqdX11_laysRow_0 3 rfl
theorem dX11_laysRow_4 : decode cX11_laysRow 4 = .ok (.if_icmp .ge 34, 3) := kq.at kqdX11_laysRow_0 4 rfl
theorem dX11_laysRow_7 : decode cX11_laysRow 7 = .ok (.aload_n 0, 1) := kq.at kqdX11_laysRow_0 5 rfl
theorem dX11_laysRow_8 : decode cX11_laysRow 8 = .ok (.getfield 62, 3) := kq.at kqdX11_laysRow_0 6 rfl
theorem dX11_laysRow_11 : decode cX11_laysRow 11 = .ok (.iload_n 3, 1) := kq.at kqdX11_laysRow_0 7 rfl
theorem dX11_laysRow_12 : decode cX11_laysRow 12 = .ok (.aload_n 0, 1) := kq.at kqdX11_laysRow_0 8 rfl
theorem dX11_laysRow_13 : decode cX11_laysRow 13 = .ok (.getfield 23, 3) := kq.at kqdX11_laysRow_0 9 rfl
theorem dX11_laysRow_16 : decode cX11_laysRow 16 = .ok (.bipush 60, 2) := kq.at kqdX11_laysRow_0 10 rfl
theorem dX11_laysRow_18 : decode cX11_laysRow 18 = .ok (.iload_n 1, 1) := kq.at kqdX11_laysRow_0 11 rfl
theorem dX11_laysRow_19 : decode cX11_laysRow 19 = .ok (.imul, 1) := kq.at kqdX11_laysRow_0 12 rfl
theorem dX11_laysRow_20 : decode cX11_laysRow 20 = .ok (.iload_n 3, 1) := kq.at kqdX11_laysRow_0 13 rfl
theorem dX11_laysRow_21 : decode cX11_laysRow 21 = .ok (.iadd, 1) := kq.at kqdX11_laysRow_0 14 rfl
theorem dX11_laysRow_22 : decode cX11_laysRow 22 = .ok (.laload, 1) := kq.at kqdX11_laysRow_0 15 rfl
theorem dX11_laysRow_23 : decode cX11_laysRow 23 = .ok (.l2i, 1) := kq.at kqdX11_laysRow_0 16 rfl
theorem dX11_laysRow_24 : decode cX11_laysRow 24 = .ok (.iastore, 1) := kq.at kqdX11_laysRow_0 17 rfl
theorem dX11_laysRow_25 : decode cX11_laysRow 25 = .ok (.aload_n 0, 1) := kq.at kqdX11_laysRow_0 18 rfl
theorem dX11_laysRow_26 : decode cX11_laysRow 26 = .ok (.getfield 65, 3) := kq.at kqdX11_laysRow_0 19 rfl
theorem dX11_laysRow_29 : decode cX11_laysRow 29 = .ok (.iload_n 3, 1) := kq.at kqdX11_laysRow_0 20 rfl
theorem dX11_laysRow_30 : decode cX11_laysRow 30 = .ok (.iconst 0, 1) := kq.at kqdX11_laysRow_0 21 rfl
theorem dX11_laysRow_31 : decode cX11_laysRow 31 = .ok (.iastore, 1) := kq.at kqdX11_laysRow_0 22 rfl
theorem dX11_laysRow_32 : decode cX11_laysRow 32 = .ok (.iinc 3 1, 3) := kq.at kqdX11_laysRow_0 23 rfl
theorem kqdX11_laysRow_35 : kq cX11_laysRow [(35, .goto (-33), 3), (38, .return_, 1)] = true := by decide +kernel
theorem dX11_laysRow_35 : decode cX11_laysRow 35 = .ok (.goto (-33), 3) := kq.at kqdX11_laysRow_35 0 rfl
theorem dX11_laysRow_38 : decode cX11_laysRow 38 = .ok (.return_, 1) := kq.at kqdX11_laysRow_35 1 rfl
theorem kqdX11_reads_0 : kq cX11_reads [(0, .aload_n 0, 1), (1, .getfield 7, 3), (4, .bipush 6, 2), (6, .iaload, 1), (7, .iload_n 1, 1), (8, .invokestatic 249, 3), (11, .ifCond .ne 14, 3), (14, .iload_n 2, 1), (15, .aload_n 0, 1), (16, .iload_n 1, 1), (17, .invokevirtual 300, 3), (20, .iadd, 1), (21, .iload_n 3, 1), (22, .if_icmp .le 5, 3), (25, .iconst 0, 1), (26, .ireturn, 1), (27, .iconst 0, 1), (28, .istore 4, 2), (30, .iload 4, 2), (32, .aload_n 0, 1), (33, .iload_n 1, 1), (34, .invokevirtual 300, 3), (37, .if_icmp .ge 43, 3), (40, .aload_n 0, 1)] = true := by decide +kernel
theorem dX11_reads_0 : decode cX11_reads 0 = .ok (.aload_n 0, 1) := kq.at kqdX11_reads_0 0 rfl
theorem dX11_reads_1 : decode cX11_reads 1 = .ok (.getfield 7, 3) := kq.at kqdX11_reads_0 1 rfl
theorem dX11_reads_4 : decode cX11_reads 4 = .ok (.bipush 6, 2) := kq.at kqdX11_reads_0 2 rfl
theorem dX11_reads_6 : decode cX11_reads 6 = .ok (.iaload, 1) := kq.at kqdX11_reads_0 3 rfl
theorem dX11_reads_7 : decode cX11_reads 7 = .ok (.iload_n 1, 1) := kq.at kqdX11_reads_0 4 rfl
theorem dX11_reads_8 : decode cX11_reads 8 = .ok (.invokestatic 249, 3) := kq.at kqdX11_reads_0 5 rfl
theorem dX11_reads_11 : decode cX11_reads 11 = .ok (.ifCond .ne 14, 3) := kq.at kqdX11_reads_0 6 rfl
theorem dX11_reads_14 : decode cX11_reads 14 = .ok (.iload_n 2, 1) := kq.at kqdX11_reads_0 7 rfl
theorem dX11_reads_15 : decode cX11_reads 15 = .ok (.aload_n 0, 1) := kq.at kqdX11_reads_0 8 rfl
theorem dX11_reads_16 : decode cX11_reads 16 = .ok (.iload_n 1, 1) := kq.at kqdX11_reads_0 9 rfl
theorem dX11_reads_17 : decode cX11_reads 17 = .ok (.invokevirtual 300, 3) := kq.at kqdX11_reads_0 10 rfl
theorem dX11_reads_20 : decode cX11_reads 20 = .ok (.iadd, 1) := kq.at kqdX11_reads_0 11 rfl
theorem dX11_reads_21 : decode cX11_reads 21 = .ok (.iload_n 3, 1) := kq.at kqdX11_reads_0 12 rfl
theorem dX11_reads_22 : decode cX11_reads 22 = .ok (.if_icmp .le 5, 3) := kq.at kqdX11_reads_0 13 rfl
theorem dX11_reads_25 : decode cX11_reads 25 = .ok (.iconst 0, 1) := kq.at kqdX11_reads_0 14 rfl
theorem dX11_reads_26 : decode cX11_reads 26 = .ok (.ireturn, 1) := kq.at kqdX11_reads_0 15 rfl
theorem dX11_reads_27 : decode cX11_reads 27 = .ok (.iconst 0, 1) := kq.at kqdX11_reads_0 16 rfl
theorem dX11_reads_28 : decode cX11_reads 28 = .ok (.istore 4, 2) := kq.at kqdX11_reads_0 17 rfl
theorem dX11_reads_30 : decode cX11_reads 30 = .ok (.iload 4, 2) := kq.at kqdX11_reads_0 18 rfl
theorem dX11_reads_32 : decode cX11_reads 32 = .ok (.aload_n 0, 1) := kq.at kqdX11_reads_0 19 rfl
theorem dX11_reads_33 : decode cX11_reads 33 = .ok (.iload_n 1, 1) := kq.at kqdX11_reads_0 20 rfl
theorem dX11_reads_34 : decode cX11_reads 34 = .ok (.invokevirtual 300, 3) := kq.at kqdX11_reads_0 21 rfl
theorem dX11_reads_37 : decode cX11_reads 37 = .ok (.if_icmp .ge 43, 3) := kq.at kqdX11_reads_0 22 rfl
theorem dX11_reads_40 : decode cX11_reads 40 = .ok (.aload_n 0, 1) := kq.at kqdX11_reads_0 23 rfl
theorem kqdX11_reads_41 : kq cX11_reads [(41, .iload_n 1, 1), (42, .iload 4, 2), (44, .invokevirtual 303, 3), (47, .aload_n 0, 1), (48, .getfield 62, 3), (51, .iload_n 2, 1), (52, .iload 4, 2), (54, .iadd, 1), (55, .iaload, 1), (56, .ixor, 1), (57, .aload_n 0, 1), (58, .getfield 65, 3), (61, .iload_n 2, 1), (62, .iload 4, 2), (64, .iadd, 1), (65, .iaload, 1), (66, .iconst (-1), 1), (67, .ixor, 1), (68, .iand, 1), (69, .ifCond .eq 5, 3), (72, .iconst 0, 1), (73, .ireturn, 1), (74, .iinc 4 1, 3), (77, .goto (-47), 3)] = true := by decide +kernel
theorem dX11_reads_41 : decode cX11_reads 41 = .ok (.iload_n 1, 1) := kq.at kqdX11_reads_41 0 rfl
theorem dX11_reads_42 : decode cX11_reads 42 = .ok (.iload 4, 2) := kq.at kqdX11_reads_41 1 rfl
theorem dX11_reads_44 : decode cX11_reads 44 = .ok (.invokevirtual 303, 3) := kq.at kqdX11_reads_41 2 rfl
theorem dX11_reads_47 : decode cX11_reads 47 = .ok (.aload_n 0, 1) := kq.at kqdX11_reads_41 3 rfl
theorem dX11_reads_48 : decode cX11_reads 48 = .ok (.getfield 62, 3) := kq.at kqdX11_reads_41 4 rfl
theorem dX11_reads_51 : decode cX11_reads 51 = .ok (.iload_n 2, 1) := kq.at kqdX11_reads_41 5 rfl
theorem dX11_reads_52 : decode cX11_reads 52 = .ok (.iload 4, 2) := kq.at kqdX11_reads_41 6 rfl
theorem dX11_reads_54 : decode cX11_reads 54 = .ok (.iadd, 1) := kq.at kqdX11_reads_41 7 rfl
theorem dX11_reads_55 : decode cX11_reads 55 = .ok (.iaload, 1) := kq.at kqdX11_reads_41 8 rfl
theorem dX11_reads_56 : decode cX11_reads 56 = .ok (.ixor, 1) := kq.at kqdX11_reads_41 9 rfl
theorem dX11_reads_57 : decode cX11_reads 57 = .ok (.aload_n 0, 1) := kq.at kqdX11_reads_41 10 rfl
theorem dX11_reads_58 : decode cX11_reads 58 = .ok (.getfield 65, 3) := kq.at kqdX11_reads_41 11 rfl
theorem dX11_reads_61 : decode cX11_reads 61 = .ok (.iload_n 2, 1) := kq.at kqdX11_reads_41 12 rfl
theorem dX11_reads_62 : decode cX11_reads 62 = .ok (.iload 4, 2) := kq.at kqdX11_reads_41 13 rfl
theorem dX11_reads_64 : decode cX11_reads 64 = .ok (.iadd, 1) := kq.at kqdX11_reads_41 14 rfl
theorem dX11_reads_65 : decode cX11_reads 65 = .ok (.iaload, 1) := kq.at kqdX11_reads_41 15 rfl
theorem dX11_reads_66 : decode cX11_reads 66 = .ok (.iconst (-1), 1) := kq.at kqdX11_reads_41 16 rfl
theorem dX11_reads_67 : decode cX11_reads 67 = .ok (.ixor, 1) := kq.at kqdX11_reads_41 17 rfl
theorem dX11_reads_68 : decode cX11_reads 68 = .ok (.iand, 1) := kq.at kqdX11_reads_41 18 rfl
theorem dX11_reads_69 : decode cX11_reads 69 = .ok (.ifCond .eq 5, 3) := kq.at kqdX11_reads_41 19 rfl
theorem dX11_reads_72 : decode cX11_reads 72 = .ok (.iconst 0, 1) := kq.at kqdX11_reads_41 20 rfl
theorem dX11_reads_73 : decode cX11_reads 73 = .ok (.ireturn, 1) := kq.at kqdX11_reads_41 21 rfl
theorem dX11_reads_74 : decode cX11_reads 74 = .ok (.iinc 4 1, 3) := kq.at kqdX11_reads_41 22 rfl
theorem dX11_reads_77 : decode cX11_reads 77 = .ok (.goto (-47), 3) := kq.at kqdX11_reads_41 23 rfl
theorem kqdX11_reads_80 : kq cX11_reads [(80, .aload_n 0, 1), (81, .getfield 7, 3), (84, .iconst 0, 1), (85, .iload_n 1, 1), (86, .invokestatic 194, 3), (89, .bipush 11, 2), (91, .iadd, 1), (92, .iaload, 1), (93, .iload_n 2, 1), (94, .ifCond .ne 7, 3), (97, .iconst 1, 1), (98, .goto 4, 3), (101, .iconst 0, 1), (102, .iload_n 2, 1), (103, .aload_n 0, 1), (104, .iload_n 1, 1), (105, .invokevirtual 300, 3), (108, .iadd, 1), (109, .iload_n 3, 1), (110, .if_icmp .ne 7, 3), (113, .iconst 1, 1), (114, .goto 4, 3), (117, .iconst 0, 1), (118, .invokestatic 245, 3)] = true := by decide +kernel
theorem dX11_reads_80 : decode cX11_reads 80 = .ok (.aload_n 0, 1) := kq.at kqdX11_reads_80 0 rfl
theorem dX11_reads_81 : decode cX11_reads 81 = .ok (.getfield 7, 3) := kq.at kqdX11_reads_80 1 rfl
theorem dX11_reads_84 : decode cX11_reads 84 = .ok (.iconst 0, 1) := kq.at kqdX11_reads_80 2 rfl
theorem dX11_reads_85 : decode cX11_reads 85 = .ok (.iload_n 1, 1) := kq.at kqdX11_reads_80 3 rfl
theorem dX11_reads_86 : decode cX11_reads 86 = .ok (.invokestatic 194, 3) := kq.at kqdX11_reads_80 4 rfl
theorem dX11_reads_89 : decode cX11_reads 89 = .ok (.bipush 11, 2) := kq.at kqdX11_reads_80 5 rfl
theorem dX11_reads_91 : decode cX11_reads 91 = .ok (.iadd, 1) := kq.at kqdX11_reads_80 6 rfl
theorem dX11_reads_92 : decode cX11_reads 92 = .ok (.iaload, 1) := kq.at kqdX11_reads_80 7 rfl
theorem dX11_reads_93 : decode cX11_reads 93 = .ok (.iload_n 2, 1) := kq.at kqdX11_reads_80 8 rfl
theorem dX11_reads_94 : decode cX11_reads 94 = .ok (.ifCond .ne 7, 3) := kq.at kqdX11_reads_80 9 rfl
theorem dX11_reads_97 : decode cX11_reads 97 = .ok (.iconst 1, 1) := kq.at kqdX11_reads_80 10 rfl
theorem dX11_reads_98 : decode cX11_reads 98 = .ok (.goto 4, 3) := kq.at kqdX11_reads_80 11 rfl
theorem dX11_reads_101 : decode cX11_reads 101 = .ok (.iconst 0, 1) := kq.at kqdX11_reads_80 12 rfl
theorem dX11_reads_102 : decode cX11_reads 102 = .ok (.iload_n 2, 1) := kq.at kqdX11_reads_80 13 rfl
theorem dX11_reads_103 : decode cX11_reads 103 = .ok (.aload_n 0, 1) := kq.at kqdX11_reads_80 14 rfl
theorem dX11_reads_104 : decode cX11_reads 104 = .ok (.iload_n 1, 1) := kq.at kqdX11_reads_80 15 rfl
theorem dX11_reads_105 : decode cX11_reads 105 = .ok (.invokevirtual 300, 3) := kq.at kqdX11_reads_80 16 rfl
theorem dX11_reads_108 : decode cX11_reads 108 = .ok (.iadd, 1) := kq.at kqdX11_reads_80 17 rfl
theorem dX11_reads_109 : decode cX11_reads 109 = .ok (.iload_n 3, 1) := kq.at kqdX11_reads_80 18 rfl
theorem dX11_reads_110 : decode cX11_reads 110 = .ok (.if_icmp .ne 7, 3) := kq.at kqdX11_reads_80 19 rfl
theorem dX11_reads_113 : decode cX11_reads 113 = .ok (.iconst 1, 1) := kq.at kqdX11_reads_80 20 rfl
theorem dX11_reads_114 : decode cX11_reads 114 = .ok (.goto 4, 3) := kq.at kqdX11_reads_80 21 rfl
theorem dX11_reads_117 : decode cX11_reads 117 = .ok (.iconst 0, 1) := kq.at kqdX11_reads_80 22 rfl
theorem dX11_reads_118 : decode cX11_reads 118 = .ok (.invokestatic 245, 3) := kq.at kqdX11_reads_80 23 rfl
theorem dX11_reads_121 : decode cX11_reads 121 = .ok (.ireturn, 1) := by decide +kernel
theorem kqdX11_countsWays_0 : kq cX11_countsWays [(0, .aload_n 0, 1), (1, .getfield 68, 3), (4, .iload_n 1, 1), (5, .iconst 1, 1), (6, .iastore, 1), (7, .iload_n 1, 1), (8, .iconst 1, 1), (9, .isub, 1), (10, .istore_n 2, 1), (11, .iload_n 2, 1), (12, .ifCond .lt 71, 3), (15, .iconst 0, 1), (16, .istore_n 3, 1), (17, .iconst 0, 1), (18, .istore 4, 2), (20, .iload 4, 2), (22, .aload_n 0, 1), (23, .getfield 7, 3), (26, .iconst 0, 1), (27, .iaload, 1), (28, .if_icmp .ge 42, 3), (31, .aload_n 0, 1), (32, .iload 4, 2), (34, .iload_n 2, 1)] = true := by decide +kernel
theorem dX11_countsWays_0 : decode cX11_countsWays 0 = .ok (.aload_n 0, 1) := kq.at kqdX11_countsWays_0 0 rfl
theorem dX11_countsWays_1 : decode cX11_countsWays 1 = .ok (.getfield 68, 3) := kq.at kqdX11_countsWays_0 1 rfl
theorem dX11_countsWays_4 : decode cX11_countsWays 4 = .ok (.iload_n 1, 1) := kq.at kqdX11_countsWays_0 2 rfl
theorem dX11_countsWays_5 : decode cX11_countsWays 5 = .ok (.iconst 1, 1) := kq.at kqdX11_countsWays_0 3 rfl
theorem dX11_countsWays_6 : decode cX11_countsWays 6 = .ok (.iastore, 1) := kq.at kqdX11_countsWays_0 4 rfl
theorem dX11_countsWays_7 : decode cX11_countsWays 7 = .ok (.iload_n 1, 1) := kq.at kqdX11_countsWays_0 5 rfl
theorem dX11_countsWays_8 : decode cX11_countsWays 8 = .ok (.iconst 1, 1) := kq.at kqdX11_countsWays_0 6 rfl
theorem dX11_countsWays_9 : decode cX11_countsWays 9 = .ok (.isub, 1) := kq.at kqdX11_countsWays_0 7 rfl
theorem dX11_countsWays_10 : decode cX11_countsWays 10 = .ok (.istore_n 2, 1) := kq.at kqdX11_countsWays_0 8 rfl
theorem dX11_countsWays_11 : decode cX11_countsWays 11 = .ok (.iload_n 2, 1) := kq.at kqdX11_countsWays_0 9 rfl
theorem dX11_countsWays_12 : decode cX11_countsWays 12 = .ok (.ifCond .lt 71, 3) := kq.at kqdX11_countsWays_0 10 rfl
theorem dX11_countsWays_15 : decode cX11_countsWays 15 = .ok (.iconst 0, 1) := kq.at kqdX11_countsWays_0 11 rfl
theorem dX11_countsWays_16 : decode cX11_countsWays 16 = .ok (.istore_n 3, 1) := kq.at kqdX11_countsWays_0 12 rfl
theorem dX11_countsWays_17 : decode cX11_countsWays 17 = .ok (.iconst 0, 1) := kq.at kqdX11_countsWays_0 13 rfl
theorem dX11_countsWays_18 : decode cX11_countsWays 18 = .ok (.istore 4, 2) := kq.at kqdX11_countsWays_0 14 rfl
theorem dX11_countsWays_20 : decode cX11_countsWays 20 = .ok (.iload 4, 2) := kq.at kqdX11_countsWays_0 15 rfl
theorem dX11_countsWays_22 : decode cX11_countsWays 22 = .ok (.aload_n 0, 1) := kq.at kqdX11_countsWays_0 16 rfl
theorem dX11_countsWays_23 : decode cX11_countsWays 23 = .ok (.getfield 7, 3) := kq.at kqdX11_countsWays_0 17 rfl
theorem dX11_countsWays_26 : decode cX11_countsWays 26 = .ok (.iconst 0, 1) := kq.at kqdX11_countsWays_0 18 rfl
theorem dX11_countsWays_27 : decode cX11_countsWays 27 = .ok (.iaload, 1) := kq.at kqdX11_countsWays_0 19 rfl
theorem dX11_countsWays_28 : decode cX11_countsWays 28 = .ok (.if_icmp .ge 42, 3) := kq.at kqdX11_countsWays_0 20 rfl
theorem dX11_countsWays_31 : decode cX11_countsWays 31 = .ok (.aload_n 0, 1) := kq.at kqdX11_countsWays_0 21 rfl
theorem dX11_countsWays_32 : decode cX11_countsWays 32 = .ok (.iload 4, 2) := kq.at kqdX11_countsWays_0 22 rfl
theorem dX11_countsWays_34 : decode cX11_countsWays 34 = .ok (.iload_n 2, 1) := kq.at kqdX11_countsWays_0 23 rfl
theorem kqdX11_countsWays_35 : kq cX11_countsWays [(35, .iload_n 1, 1), (36, .invokevirtual 369, 3), (39, .ifCond .eq 25, 3), (42, .ldc_w 372, 3), (45, .iload_n 3, 1), (46, .aload_n 0, 1), (47, .getfield 68, 3), (50, .iload_n 2, 1), (51, .aload_n 0, 1), (52, .iload 4, 2), (54, .invokevirtual 300, 3), (57, .iadd, 1), (58, .iaload, 1), (59, .iadd, 1), (60, .invokestatic 154, 3), (63, .istore_n 3, 1), (64, .iinc 4 1, 3), (67, .goto (-47), 3), (70, .aload_n 0, 1), (71, .getfield 68, 3), (74, .iload_n 2, 1), (75, .iload_n 3, 1), (76, .iastore, 1), (77, .iinc 2 (-1), 3)] = true := by decide +kernel
theorem dX11_countsWays_35 : decode cX11_countsWays 35 = .ok (.iload_n 1, 1) := kq.at kqdX11_countsWays_35 0 rfl
theorem dX11_countsWays_36 : decode cX11_countsWays 36 = .ok (.invokevirtual 369, 3) := kq.at kqdX11_countsWays_35 1 rfl
theorem dX11_countsWays_39 : decode cX11_countsWays 39 = .ok (.ifCond .eq 25, 3) := kq.at kqdX11_countsWays_35 2 rfl
theorem dX11_countsWays_42 : decode cX11_countsWays 42 = .ok (.ldc_w 372, 3) := kq.at kqdX11_countsWays_35 3 rfl
theorem dX11_countsWays_45 : decode cX11_countsWays 45 = .ok (.iload_n 3, 1) := kq.at kqdX11_countsWays_35 4 rfl
theorem dX11_countsWays_46 : decode cX11_countsWays 46 = .ok (.aload_n 0, 1) := kq.at kqdX11_countsWays_35 5 rfl
theorem dX11_countsWays_47 : decode cX11_countsWays 47 = .ok (.getfield 68, 3) := kq.at kqdX11_countsWays_35 6 rfl
theorem dX11_countsWays_50 : decode cX11_countsWays 50 = .ok (.iload_n 2, 1) := kq.at kqdX11_countsWays_35 7 rfl
theorem dX11_countsWays_51 : decode cX11_countsWays 51 = .ok (.aload_n 0, 1) := kq.at kqdX11_countsWays_35 8 rfl
theorem dX11_countsWays_52 : decode cX11_countsWays 52 = .ok (.iload 4, 2) := kq.at kqdX11_countsWays_35 9 rfl
theorem dX11_countsWays_54 : decode cX11_countsWays 54 = .ok (.invokevirtual 300, 3) := kq.at kqdX11_countsWays_35 10 rfl
theorem dX11_countsWays_57 : decode cX11_countsWays 57 = .ok (.iadd, 1) := kq.at kqdX11_countsWays_35 11 rfl
theorem dX11_countsWays_58 : decode cX11_countsWays 58 = .ok (.iaload, 1) := kq.at kqdX11_countsWays_35 12 rfl
theorem dX11_countsWays_59 : decode cX11_countsWays 59 = .ok (.iadd, 1) := kq.at kqdX11_countsWays_35 13 rfl
theorem dX11_countsWays_60 : decode cX11_countsWays 60 = .ok (.invokestatic 154, 3) := kq.at kqdX11_countsWays_35 14 rfl
theorem dX11_countsWays_63 : decode cX11_countsWays 63 = .ok (.istore_n 3, 1) := kq.at kqdX11_countsWays_35 15 rfl
theorem dX11_countsWays_64 : decode cX11_countsWays 64 = .ok (.iinc 4 1, 3) := kq.at kqdX11_countsWays_35 16 rfl
theorem dX11_countsWays_67 : decode cX11_countsWays 67 = .ok (.goto (-47), 3) := kq.at kqdX11_countsWays_35 17 rfl
theorem dX11_countsWays_70 : decode cX11_countsWays 70 = .ok (.aload_n 0, 1) := kq.at kqdX11_countsWays_35 18 rfl
theorem dX11_countsWays_71 : decode cX11_countsWays 71 = .ok (.getfield 68, 3) := kq.at kqdX11_countsWays_35 19 rfl
theorem dX11_countsWays_74 : decode cX11_countsWays 74 = .ok (.iload_n 2, 1) := kq.at kqdX11_countsWays_35 20 rfl
theorem dX11_countsWays_75 : decode cX11_countsWays 75 = .ok (.iload_n 3, 1) := kq.at kqdX11_countsWays_35 21 rfl
theorem dX11_countsWays_76 : decode cX11_countsWays 76 = .ok (.iastore, 1) := kq.at kqdX11_countsWays_35 22 rfl
theorem dX11_countsWays_77 : decode cX11_countsWays 77 = .ok (.iinc 2 (-1), 3) := kq.at kqdX11_countsWays_35 23 rfl
theorem kqdX11_countsWays_80 : kq cX11_countsWays [(80, .goto (-69), 3), (83, .aload_n 0, 1), (84, .getfield 68, 3), (87, .iconst 0, 1), (88, .iaload, 1), (89, .ireturn, 1)] = true := by decide +kernel
theorem dX11_countsWays_80 : decode cX11_countsWays 80 = .ok (.goto (-69), 3) := kq.at kqdX11_countsWays_80 0 rfl
theorem dX11_countsWays_83 : decode cX11_countsWays 83 = .ok (.aload_n 0, 1) := kq.at kqdX11_countsWays_80 1 rfl
theorem dX11_countsWays_84 : decode cX11_countsWays 84 = .ok (.getfield 68, 3) := kq.at kqdX11_countsWays_80 2 rfl
theorem dX11_countsWays_87 : decode cX11_countsWays 87 = .ok (.iconst 0, 1) := kq.at kqdX11_countsWays_80 3 rfl
theorem dX11_countsWays_88 : decode cX11_countsWays 88 = .ok (.iaload, 1) := kq.at kqdX11_countsWays_80 4 rfl
theorem dX11_countsWays_89 : decode cX11_countsWays 89 = .ok (.ireturn, 1) := kq.at kqdX11_countsWays_80 5 rfl
theorem kqdX11_ways_0 : kq cX11_ways [(0, .aload_n 0, 1), (1, .iload_n 1, 1), (2, .iload_n 2, 1), (3, .iconst 1, 1), (4, .invokevirtual 373, 3), (7, .istore_n 3, 1), (8, .iload_n 3, 1), (9, .ifCond .le 9, 3), (12, .aload_n 0, 1), (13, .iload_n 3, 1), (14, .invokevirtual 188, 3), (17, .ireturn, 1), (18, .aload_n 0, 1), (19, .iload_n 1, 1), (20, .iload_n 2, 1), (21, .invokevirtual 377, 3), (24, .aload_n 0, 1), (25, .aload_n 0, 1), (26, .iload_n 2, 1), (27, .invokevirtual 380, 3), (30, .invokevirtual 191, 3), (33, .ireturn, 1)] = true := by decide +kernel
theorem dX11_ways_0 : decode cX11_ways 0 = .ok (.aload_n 0, 1) := kq.at kqdX11_ways_0 0 rfl
theorem dX11_ways_1 : decode cX11_ways 1 = .ok (.iload_n 1, 1) := kq.at kqdX11_ways_0 1 rfl
theorem dX11_ways_2 : decode cX11_ways 2 = .ok (.iload_n 2, 1) := kq.at kqdX11_ways_0 2 rfl
theorem dX11_ways_3 : decode cX11_ways 3 = .ok (.iconst 1, 1) := kq.at kqdX11_ways_0 3 rfl
theorem dX11_ways_4 : decode cX11_ways 4 = .ok (.invokevirtual 373, 3) := kq.at kqdX11_ways_0 4 rfl
theorem dX11_ways_7 : decode cX11_ways 7 = .ok (.istore_n 3, 1) := kq.at kqdX11_ways_0 5 rfl
theorem dX11_ways_8 : decode cX11_ways 8 = .ok (.iload_n 3, 1) := kq.at kqdX11_ways_0 6 rfl
theorem dX11_ways_9 : decode cX11_ways 9 = .ok (.ifCond .le 9, 3) := kq.at kqdX11_ways_0 7 rfl
theorem dX11_ways_12 : decode cX11_ways 12 = .ok (.aload_n 0, 1) := kq.at kqdX11_ways_0 8 rfl
theorem dX11_ways_13 : decode cX11_ways 13 = .ok (.iload_n 3, 1) := kq.at kqdX11_ways_0 9 rfl
theorem dX11_ways_14 : decode cX11_ways 14 = .ok (.invokevirtual 188, 3) := kq.at kqdX11_ways_0 10 rfl
theorem dX11_ways_17 : decode cX11_ways 17 = .ok (.ireturn, 1) := kq.at kqdX11_ways_0 11 rfl
theorem dX11_ways_18 : decode cX11_ways 18 = .ok (.aload_n 0, 1) := kq.at kqdX11_ways_0 12 rfl
theorem dX11_ways_19 : decode cX11_ways 19 = .ok (.iload_n 1, 1) := kq.at kqdX11_ways_0 13 rfl
theorem dX11_ways_20 : decode cX11_ways 20 = .ok (.iload_n 2, 1) := kq.at kqdX11_ways_0 14 rfl
theorem dX11_ways_21 : decode cX11_ways 21 = .ok (.invokevirtual 377, 3) := kq.at kqdX11_ways_0 15 rfl
theorem dX11_ways_24 : decode cX11_ways 24 = .ok (.aload_n 0, 1) := kq.at kqdX11_ways_0 16 rfl
theorem dX11_ways_25 : decode cX11_ways 25 = .ok (.aload_n 0, 1) := kq.at kqdX11_ways_0 17 rfl
theorem dX11_ways_26 : decode cX11_ways 26 = .ok (.iload_n 2, 1) := kq.at kqdX11_ways_0 18 rfl
theorem dX11_ways_27 : decode cX11_ways 27 = .ok (.invokevirtual 380, 3) := kq.at kqdX11_ways_0 19 rfl
theorem dX11_ways_30 : decode cX11_ways 30 = .ok (.invokevirtual 191, 3) := kq.at kqdX11_ways_0 20 rfl
theorem dX11_ways_33 : decode cX11_ways 33 = .ok (.ireturn, 1) := kq.at kqdX11_ways_0 21 rfl
theorem kqdX11_first_0 : kq cX11_first [(0, .aload_n 0, 1), (1, .iload_n 1, 1), (2, .iload_n 2, 1), (3, .iconst 1, 1), (4, .invokevirtual 373, 3), (7, .istore_n 3, 1), (8, .iload_n 3, 1), (9, .ifCond .le 9, 3), (12, .aload_n 0, 1), (13, .iload_n 3, 1), (14, .invokevirtual 188, 3), (17, .ireturn, 1), (18, .aload_n 0, 1), (19, .iload_n 1, 1), (20, .iload_n 2, 1), (21, .invokevirtual 377, 3), (24, .aload_n 0, 1), (25, .iload_n 2, 1), (26, .invokevirtual 380, 3), (29, .ifCond .ne 10, 3), (32, .aload_n 0, 1), (33, .bipush 6, 2), (35, .invokevirtual 188, 3), (38, .ireturn, 1)] = true := by decide +kernel
theorem dX11_first_0 : decode cX11_first 0 = .ok (.aload_n 0, 1) := kq.at kqdX11_first_0 0 rfl
theorem dX11_first_1 : decode cX11_first 1 = .ok (.iload_n 1, 1) := kq.at kqdX11_first_0 1 rfl
theorem dX11_first_2 : decode cX11_first 2 = .ok (.iload_n 2, 1) := kq.at kqdX11_first_0 2 rfl
theorem dX11_first_3 : decode cX11_first 3 = .ok (.iconst 1, 1) := kq.at kqdX11_first_0 3 rfl
theorem dX11_first_4 : decode cX11_first 4 = .ok (.invokevirtual 373, 3) := kq.at kqdX11_first_0 4 rfl
theorem dX11_first_7 : decode cX11_first 7 = .ok (.istore_n 3, 1) := kq.at kqdX11_first_0 5 rfl
theorem dX11_first_8 : decode cX11_first 8 = .ok (.iload_n 3, 1) := kq.at kqdX11_first_0 6 rfl
theorem dX11_first_9 : decode cX11_first 9 = .ok (.ifCond .le 9, 3) := kq.at kqdX11_first_0 7 rfl
theorem dX11_first_12 : decode cX11_first 12 = .ok (.aload_n 0, 1) := kq.at kqdX11_first_0 8 rfl
theorem dX11_first_13 : decode cX11_first 13 = .ok (.iload_n 3, 1) := kq.at kqdX11_first_0 9 rfl
theorem dX11_first_14 : decode cX11_first 14 = .ok (.invokevirtual 188, 3) := kq.at kqdX11_first_0 10 rfl
theorem dX11_first_17 : decode cX11_first 17 = .ok (.ireturn, 1) := kq.at kqdX11_first_0 11 rfl
theorem dX11_first_18 : decode cX11_first 18 = .ok (.aload_n 0, 1) := kq.at kqdX11_first_0 12 rfl
theorem dX11_first_19 : decode cX11_first 19 = .ok (.iload_n 1, 1) := kq.at kqdX11_first_0 13 rfl
theorem dX11_first_20 : decode cX11_first 20 = .ok (.iload_n 2, 1) := kq.at kqdX11_first_0 14 rfl
theorem dX11_first_21 : decode cX11_first 21 = .ok (.invokevirtual 377, 3) := kq.at kqdX11_first_0 15 rfl
theorem dX11_first_24 : decode cX11_first 24 = .ok (.aload_n 0, 1) := kq.at kqdX11_first_0 16 rfl
theorem dX11_first_25 : decode cX11_first 25 = .ok (.iload_n 2, 1) := kq.at kqdX11_first_0 17 rfl
theorem dX11_first_26 : decode cX11_first 26 = .ok (.invokevirtual 380, 3) := kq.at kqdX11_first_0 18 rfl
theorem dX11_first_29 : decode cX11_first 29 = .ok (.ifCond .ne 10, 3) := kq.at kqdX11_first_0 19 rfl
theorem dX11_first_32 : decode cX11_first 32 = .ok (.aload_n 0, 1) := kq.at kqdX11_first_0 20 rfl
theorem dX11_first_33 : decode cX11_first 33 = .ok (.bipush 6, 2) := kq.at kqdX11_first_0 21 rfl
theorem dX11_first_35 : decode cX11_first 35 = .ok (.invokevirtual 188, 3) := kq.at kqdX11_first_0 22 rfl
theorem dX11_first_38 : decode cX11_first 38 = .ok (.ireturn, 1) := kq.at kqdX11_first_0 23 rfl
theorem kqdX11_first_39 : kq cX11_first [(39, .aload_n 0, 1), (40, .iconst 0, 1), (41, .putfield 74, 3), (44, .aload_n 0, 1), (45, .iconst 0, 1), (46, .putfield 383, 3), (49, .iconst 0, 1), (50, .istore 4, 2), (52, .iload 4, 2), (54, .iload_n 2, 1), (55, .if_icmp .ge 96, 3), (58, .iconst 0, 1), (59, .istore 5, 2), (61, .aload_n 0, 1), (62, .iload 5, 2), (64, .iload 4, 2), (66, .iload_n 2, 1), (67, .invokevirtual 369, 3), (70, .ifCond .eq 20, 3), (73, .aload_n 0, 1), (74, .getfield 68, 3), (77, .iload 4, 2), (79, .aload_n 0, 1), (80, .iload 5, 2)] = true := by decide +kernel
theorem dX11_first_39 : decode cX11_first 39 = .ok (.aload_n 0, 1) := kq.at kqdX11_first_39 0 rfl
theorem dX11_first_40 : decode cX11_first 40 = .ok (.iconst 0, 1) := kq.at kqdX11_first_39 1 rfl
theorem dX11_first_41 : decode cX11_first 41 = .ok (.putfield 74, 3) := kq.at kqdX11_first_39 2 rfl
theorem dX11_first_44 : decode cX11_first 44 = .ok (.aload_n 0, 1) := kq.at kqdX11_first_39 3 rfl
theorem dX11_first_45 : decode cX11_first 45 = .ok (.iconst 0, 1) := kq.at kqdX11_first_39 4 rfl
theorem dX11_first_46 : decode cX11_first 46 = .ok (.putfield 383, 3) := kq.at kqdX11_first_39 5 rfl
theorem dX11_first_49 : decode cX11_first 49 = .ok (.iconst 0, 1) := kq.at kqdX11_first_39 6 rfl
theorem dX11_first_50 : decode cX11_first 50 = .ok (.istore 4, 2) := kq.at kqdX11_first_39 7 rfl
theorem dX11_first_52 : decode cX11_first 52 = .ok (.iload 4, 2) := kq.at kqdX11_first_39 8 rfl
theorem dX11_first_54 : decode cX11_first 54 = .ok (.iload_n 2, 1) := kq.at kqdX11_first_39 9 rfl
theorem dX11_first_55 : decode cX11_first 55 = .ok (.if_icmp .ge 96, 3) := kq.at kqdX11_first_39 10 rfl
theorem dX11_first_58 : decode cX11_first 58 = .ok (.iconst 0, 1) := kq.at kqdX11_first_39 11 rfl
theorem dX11_first_59 : decode cX11_first 59 = .ok (.istore 5, 2) := kq.at kqdX11_first_39 12 rfl
theorem dX11_first_61 : decode cX11_first 61 = .ok (.aload_n 0, 1) := kq.at kqdX11_first_39 13 rfl
theorem dX11_first_62 : decode cX11_first 62 = .ok (.iload 5, 2) := kq.at kqdX11_first_39 14 rfl
theorem dX11_first_64 : decode cX11_first 64 = .ok (.iload 4, 2) := kq.at kqdX11_first_39 15 rfl
theorem dX11_first_66 : decode cX11_first 66 = .ok (.iload_n 2, 1) := kq.at kqdX11_first_39 16 rfl
theorem dX11_first_67 : decode cX11_first 67 = .ok (.invokevirtual 369, 3) := kq.at kqdX11_first_39 17 rfl
theorem dX11_first_70 : decode cX11_first 70 = .ok (.ifCond .eq 20, 3) := kq.at kqdX11_first_39 18 rfl
theorem dX11_first_73 : decode cX11_first 73 = .ok (.aload_n 0, 1) := kq.at kqdX11_first_39 19 rfl
theorem dX11_first_74 : decode cX11_first 74 = .ok (.getfield 68, 3) := kq.at kqdX11_first_39 20 rfl
theorem dX11_first_77 : decode cX11_first 77 = .ok (.iload 4, 2) := kq.at kqdX11_first_39 21 rfl
theorem dX11_first_79 : decode cX11_first 79 = .ok (.aload_n 0, 1) := kq.at kqdX11_first_39 22 rfl
theorem dX11_first_80 : decode cX11_first 80 = .ok (.iload 5, 2) := kq.at kqdX11_first_39 23 rfl
theorem kqdX11_first_82 : kq cX11_first [(82, .invokevirtual 300, 3), (85, .iadd, 1), (86, .iaload, 1), (87, .ifCond .ne 9, 3), (90, .iinc 5 1, 3), (93, .goto (-32), 3), (96, .aload_n 0, 1), (97, .getfield 71, 3), (100, .aload_n 0, 1), (101, .getfield 74, 3), (104, .iload 5, 2), (106, .iastore, 1), (107, .aload_n 0, 1), (108, .dup, 1), (109, .getfield 74, 3), (112, .iconst 1, 1), (113, .iadd, 1), (114, .putfield 74, 3), (117, .aload_n 0, 1), (118, .dup, 1), (119, .getfield 383, 3), (122, .aload_n 0, 1), (123, .getfield 7, 3), (126, .iconst 0, 1)] = true := by decide +kernel
theorem dX11_first_82 : decode cX11_first 82 = .ok (.invokevirtual 300, 3) := kq.at kqdX11_first_82 0 rfl
theorem dX11_first_85 : decode cX11_first 85 = .ok (.iadd, 1) := kq.at kqdX11_first_82 1 rfl
theorem dX11_first_86 : decode cX11_first 86 = .ok (.iaload, 1) := kq.at kqdX11_first_82 2 rfl
theorem dX11_first_87 : decode cX11_first 87 = .ok (.ifCond .ne 9, 3) := kq.at kqdX11_first_82 3 rfl
theorem dX11_first_90 : decode cX11_first 90 = .ok (.iinc 5 1, 3) := kq.at kqdX11_first_82 4 rfl
theorem dX11_first_93 : decode cX11_first 93 = .ok (.goto (-32), 3) := kq.at kqdX11_first_82 5 rfl
theorem dX11_first_96 : decode cX11_first 96 = .ok (.aload_n 0, 1) := kq.at kqdX11_first_82 6 rfl
theorem dX11_first_97 : decode cX11_first 97 = .ok (.getfield 71, 3) := kq.at kqdX11_first_82 7 rfl
theorem dX11_first_100 : decode cX11_first 100 = .ok (.aload_n 0, 1) := kq.at kqdX11_first_82 8 rfl
theorem dX11_first_101 : decode cX11_first 101 = .ok (.getfield 74, 3) := kq.at kqdX11_first_82 9 rfl
theorem dX11_first_104 : decode cX11_first 104 = .ok (.iload 5, 2) := kq.at kqdX11_first_82 10 rfl
theorem dX11_first_106 : decode cX11_first 106 = .ok (.iastore, 1) := kq.at kqdX11_first_82 11 rfl
theorem dX11_first_107 : decode cX11_first 107 = .ok (.aload_n 0, 1) := kq.at kqdX11_first_82 12 rfl
theorem dX11_first_108 : decode cX11_first 108 = .ok (.dup, 1) := kq.at kqdX11_first_82 13 rfl
theorem dX11_first_109 : decode cX11_first 109 = .ok (.getfield 74, 3) := kq.at kqdX11_first_82 14 rfl
theorem dX11_first_112 : decode cX11_first 112 = .ok (.iconst 1, 1) := kq.at kqdX11_first_82 15 rfl
theorem dX11_first_113 : decode cX11_first 113 = .ok (.iadd, 1) := kq.at kqdX11_first_82 16 rfl
theorem dX11_first_114 : decode cX11_first 114 = .ok (.putfield 74, 3) := kq.at kqdX11_first_82 17 rfl
theorem dX11_first_117 : decode cX11_first 117 = .ok (.aload_n 0, 1) := kq.at kqdX11_first_82 18 rfl
theorem dX11_first_118 : decode cX11_first 118 = .ok (.dup, 1) := kq.at kqdX11_first_82 19 rfl
theorem dX11_first_119 : decode cX11_first 119 = .ok (.getfield 383, 3) := kq.at kqdX11_first_82 20 rfl
theorem dX11_first_122 : decode cX11_first 122 = .ok (.aload_n 0, 1) := kq.at kqdX11_first_82 21 rfl
theorem dX11_first_123 : decode cX11_first 123 = .ok (.getfield 7, 3) := kq.at kqdX11_first_82 22 rfl
theorem dX11_first_126 : decode cX11_first 126 = .ok (.iconst 0, 1) := kq.at kqdX11_first_82 23 rfl
theorem kqdX11_first_127 : kq cX11_first [(127, .iload 5, 2), (129, .invokestatic 194, 3), (132, .iaload, 1), (133, .iadd, 1), (134, .putfield 383, 3), (137, .iload 4, 2), (139, .aload_n 0, 1), (140, .iload 5, 2), (142, .invokevirtual 300, 3), (145, .iadd, 1), (146, .istore 4, 2), (148, .goto (-96), 3), (151, .aload_n 0, 1), (152, .aload_n 0, 1), (153, .getfield 74, 3), (156, .invokevirtual 191, 3), (159, .ireturn, 1)] = true := by decide +kernel
theorem dX11_first_127 : decode cX11_first 127 = .ok (.iload 5, 2) := kq.at kqdX11_first_127 0 rfl
theorem dX11_first_129 : decode cX11_first 129 = .ok (.invokestatic 194, 3) := kq.at kqdX11_first_127 1 rfl
theorem dX11_first_132 : decode cX11_first 132 = .ok (.iaload, 1) := kq.at kqdX11_first_127 2 rfl
theorem dX11_first_133 : decode cX11_first 133 = .ok (.iadd, 1) := kq.at kqdX11_first_127 3 rfl
theorem dX11_first_134 : decode cX11_first 134 = .ok (.putfield 383, 3) := kq.at kqdX11_first_127 4 rfl
theorem dX11_first_137 : decode cX11_first 137 = .ok (.iload 4, 2) := kq.at kqdX11_first_127 5 rfl
theorem dX11_first_139 : decode cX11_first 139 = .ok (.aload_n 0, 1) := kq.at kqdX11_first_127 6 rfl
theorem dX11_first_140 : decode cX11_first 140 = .ok (.iload 5, 2) := kq.at kqdX11_first_127 7 rfl
theorem dX11_first_142 : decode cX11_first 142 = .ok (.invokevirtual 300, 3) := kq.at kqdX11_first_127 8 rfl
theorem dX11_first_145 : decode cX11_first 145 = .ok (.iadd, 1) := kq.at kqdX11_first_127 9 rfl
theorem dX11_first_146 : decode cX11_first 146 = .ok (.istore 4, 2) := kq.at kqdX11_first_127 10 rfl
theorem dX11_first_148 : decode cX11_first 148 = .ok (.goto (-96), 3) := kq.at kqdX11_first_127 11 rfl
theorem dX11_first_151 : decode cX11_first 151 = .ok (.aload_n 0, 1) := kq.at kqdX11_first_127 12 rfl
theorem dX11_first_152 : decode cX11_first 152 = .ok (.aload_n 0, 1) := kq.at kqdX11_first_127 13 rfl
theorem dX11_first_153 : decode cX11_first 153 = .ok (.getfield 74, 3) := kq.at kqdX11_first_127 14 rfl
theorem dX11_first_156 : decode cX11_first 156 = .ok (.invokevirtual 191, 3) := kq.at kqdX11_first_127 15 rfl
theorem dX11_first_159 : decode cX11_first 159 = .ok (.ireturn, 1) := kq.at kqdX11_first_127 16 rfl
theorem kqdX11_firstAt_0 : kq cX11_firstAt [(0, .iload_n 1, 1), (1, .ifCond .lt 11, 3), (4, .iload_n 1, 1), (5, .aload_n 0, 1), (6, .getfield 74, 3), (9, .if_icmp .lt 12, 3), (12, .aload_n 0, 1), (13, .bipush 6, 2), (15, .invokevirtual 188, 3), (18, .goto 13, 3), (21, .aload_n 0, 1), (22, .aload_n 0, 1), (23, .getfield 71, 3), (26, .iload_n 1, 1), (27, .iaload, 1), (28, .invokevirtual 191, 3), (31, .ireturn, 1)] = true := by decide +kernel
theorem dX11_firstAt_0 : decode cX11_firstAt 0 = .ok (.iload_n 1, 1) := kq.at kqdX11_firstAt_0 0 rfl
theorem dX11_firstAt_1 : decode cX11_firstAt 1 = .ok (.ifCond .lt 11, 3) := kq.at kqdX11_firstAt_0 1 rfl
theorem dX11_firstAt_4 : decode cX11_firstAt 4 = .ok (.iload_n 1, 1) := kq.at kqdX11_firstAt_0 2 rfl
theorem dX11_firstAt_5 : decode cX11_firstAt 5 = .ok (.aload_n 0, 1) := kq.at kqdX11_firstAt_0 3 rfl
theorem dX11_firstAt_6 : decode cX11_firstAt 6 = .ok (.getfield 74, 3) := kq.at kqdX11_firstAt_0 4 rfl
theorem dX11_firstAt_9 : decode cX11_firstAt 9 = .ok (.if_icmp .lt 12, 3) := kq.at kqdX11_firstAt_0 5 rfl
theorem dX11_firstAt_12 : decode cX11_firstAt 12 = .ok (.aload_n 0, 1) := kq.at kqdX11_firstAt_0 6 rfl
theorem dX11_firstAt_13 : decode cX11_firstAt 13 = .ok (.bipush 6, 2) := kq.at kqdX11_firstAt_0 7 rfl
theorem dX11_firstAt_15 : decode cX11_firstAt 15 = .ok (.invokevirtual 188, 3) := kq.at kqdX11_firstAt_0 8 rfl
theorem dX11_firstAt_18 : decode cX11_firstAt 18 = .ok (.goto 13, 3) := kq.at kqdX11_firstAt_0 9 rfl
theorem dX11_firstAt_21 : decode cX11_firstAt 21 = .ok (.aload_n 0, 1) := kq.at kqdX11_firstAt_0 10 rfl
theorem dX11_firstAt_22 : decode cX11_firstAt 22 = .ok (.aload_n 0, 1) := kq.at kqdX11_firstAt_0 11 rfl
theorem dX11_firstAt_23 : decode cX11_firstAt 23 = .ok (.getfield 71, 3) := kq.at kqdX11_firstAt_0 12 rfl
theorem dX11_firstAt_26 : decode cX11_firstAt 26 = .ok (.iload_n 1, 1) := kq.at kqdX11_firstAt_0 13 rfl
theorem dX11_firstAt_27 : decode cX11_firstAt 27 = .ok (.iaload, 1) := kq.at kqdX11_firstAt_0 14 rfl
theorem dX11_firstAt_28 : decode cX11_firstAt 28 = .ok (.invokevirtual 191, 3) := kq.at kqdX11_firstAt_0 15 rfl
theorem dX11_firstAt_31 : decode cX11_firstAt 31 = .ok (.ireturn, 1) := kq.at kqdX11_firstAt_0 16 rfl
theorem kqdX11_letters_0 : kq cX11_letters [(0, .aload_n 0, 1), (1, .getfield 74, 3), (4, .iconst (-1), 1), (5, .if_icmp .ne 12, 3), (8, .aload_n 0, 1), (9, .bipush 6, 2), (11, .invokevirtual 188, 3), (14, .goto 11, 3), (17, .aload_n 0, 1), (18, .aload_n 0, 1), (19, .getfield 383, 3), (22, .invokevirtual 191, 3), (25, .ireturn, 1)] = true := by decide +kernel
theorem dX11_letters_0 : decode cX11_letters 0 = .ok (.aload_n 0, 1) := kq.at kqdX11_letters_0 0 rfl
theorem dX11_letters_1 : decode cX11_letters 1 = .ok (.getfield 74, 3) := kq.at kqdX11_letters_0 1 rfl
theorem dX11_letters_4 : decode cX11_letters 4 = .ok (.iconst (-1), 1) := kq.at kqdX11_letters_0 2 rfl
theorem dX11_letters_5 : decode cX11_letters 5 = .ok (.if_icmp .ne 12, 3) := kq.at kqdX11_letters_0 3 rfl
theorem dX11_letters_8 : decode cX11_letters 8 = .ok (.aload_n 0, 1) := kq.at kqdX11_letters_0 4 rfl
theorem dX11_letters_9 : decode cX11_letters 9 = .ok (.bipush 6, 2) := kq.at kqdX11_letters_0 5 rfl
theorem dX11_letters_11 : decode cX11_letters 11 = .ok (.invokevirtual 188, 3) := kq.at kqdX11_letters_0 6 rfl
theorem dX11_letters_14 : decode cX11_letters 14 = .ok (.goto 11, 3) := kq.at kqdX11_letters_0 7 rfl
theorem dX11_letters_17 : decode cX11_letters 17 = .ok (.aload_n 0, 1) := kq.at kqdX11_letters_0 8 rfl
theorem dX11_letters_18 : decode cX11_letters 18 = .ok (.aload_n 0, 1) := kq.at kqdX11_letters_0 9 rfl
theorem dX11_letters_19 : decode cX11_letters 19 = .ok (.getfield 383, 3) := kq.at kqdX11_letters_0 10 rfl
theorem dX11_letters_22 : decode cX11_letters 22 = .ok (.invokevirtual 191, 3) := kq.at kqdX11_letters_0 11 rfl
theorem dX11_letters_25 : decode cX11_letters 25 = .ok (.ireturn, 1) := kq.at kqdX11_letters_0 12 rfl
theorem kqdX11_isTrue_0 : kq cX11_isTrue [(0, .iconst 0, 1), (1, .istore_n 3, 1), (2, .iconst 0, 1), (3, .istore 4, 2), (5, .iload 4, 2), (7, .iload_n 1, 1), (8, .if_icmp .ge 73, 3), (11, .iconst 0, 1), (12, .aload_n 0, 1), (13, .getfield 77, 3), (16, .iload 4, 2), (18, .iaload, 1), (19, .invokestatic 194, 3), (22, .istore 5, 2), (24, .iconst 0, 1), (25, .istore 6, 2), (27, .iload 6, 2), (29, .aload_n 0, 1), (30, .getfield 7, 3), (33, .iload 5, 2), (35, .iaload, 1), (36, .if_icmp .ge 39, 3), (39, .aload_n 0, 1), (40, .getfield 7, 3)] = true := by decide +kernel
theorem dX11_isTrue_0 : decode cX11_isTrue 0 = .ok (.iconst 0, 1) := kq.at kqdX11_isTrue_0 0 rfl
theorem dX11_isTrue_1 : decode cX11_isTrue 1 = .ok (.istore_n 3, 1) := kq.at kqdX11_isTrue_0 1 rfl
theorem dX11_isTrue_2 : decode cX11_isTrue 2 = .ok (.iconst 0, 1) := kq.at kqdX11_isTrue_0 2 rfl
theorem dX11_isTrue_3 : decode cX11_isTrue 3 = .ok (.istore 4, 2) := kq.at kqdX11_isTrue_0 3 rfl
theorem dX11_isTrue_5 : decode cX11_isTrue 5 = .ok (.iload 4, 2) := kq.at kqdX11_isTrue_0 4 rfl
theorem dX11_isTrue_7 : decode cX11_isTrue 7 = .ok (.iload_n 1, 1) := kq.at kqdX11_isTrue_0 5 rfl
theorem dX11_isTrue_8 : decode cX11_isTrue 8 = .ok (.if_icmp .ge 73, 3) := kq.at kqdX11_isTrue_0 6 rfl
theorem dX11_isTrue_11 : decode cX11_isTrue 11 = .ok (.iconst 0, 1) := kq.at kqdX11_isTrue_0 7 rfl
theorem dX11_isTrue_12 : decode cX11_isTrue 12 = .ok (.aload_n 0, 1) := kq.at kqdX11_isTrue_0 8 rfl
theorem dX11_isTrue_13 : decode cX11_isTrue 13 = .ok (.getfield 77, 3) := kq.at kqdX11_isTrue_0 9 rfl
theorem dX11_isTrue_16 : decode cX11_isTrue 16 = .ok (.iload 4, 2) := kq.at kqdX11_isTrue_0 10 rfl
theorem dX11_isTrue_18 : decode cX11_isTrue 18 = .ok (.iaload, 1) := kq.at kqdX11_isTrue_0 11 rfl
theorem dX11_isTrue_19 : decode cX11_isTrue 19 = .ok (.invokestatic 194, 3) := kq.at kqdX11_isTrue_0 12 rfl
theorem dX11_isTrue_22 : decode cX11_isTrue 22 = .ok (.istore 5, 2) := kq.at kqdX11_isTrue_0 13 rfl
theorem dX11_isTrue_24 : decode cX11_isTrue 24 = .ok (.iconst 0, 1) := kq.at kqdX11_isTrue_0 14 rfl
theorem dX11_isTrue_25 : decode cX11_isTrue 25 = .ok (.istore 6, 2) := kq.at kqdX11_isTrue_0 15 rfl
theorem dX11_isTrue_27 : decode cX11_isTrue 27 = .ok (.iload 6, 2) := kq.at kqdX11_isTrue_0 16 rfl
theorem dX11_isTrue_29 : decode cX11_isTrue 29 = .ok (.aload_n 0, 1) := kq.at kqdX11_isTrue_0 17 rfl
theorem dX11_isTrue_30 : decode cX11_isTrue 30 = .ok (.getfield 7, 3) := kq.at kqdX11_isTrue_0 18 rfl
theorem dX11_isTrue_33 : decode cX11_isTrue 33 = .ok (.iload 5, 2) := kq.at kqdX11_isTrue_0 19 rfl
theorem dX11_isTrue_35 : decode cX11_isTrue 35 = .ok (.iaload, 1) := kq.at kqdX11_isTrue_0 20 rfl
theorem dX11_isTrue_36 : decode cX11_isTrue 36 = .ok (.if_icmp .ge 39, 3) := kq.at kqdX11_isTrue_0 21 rfl
theorem dX11_isTrue_39 : decode cX11_isTrue 39 = .ok (.aload_n 0, 1) := kq.at kqdX11_isTrue_0 22 rfl
theorem dX11_isTrue_40 : decode cX11_isTrue 40 = .ok (.getfield 7, 3) := kq.at kqdX11_isTrue_0 23 rfl
theorem kqdX11_isTrue_43 : kq cX11_isTrue [(43, .sipush 16800, 3), (46, .iload_n 3, 1), (47, .iadd, 1), (48, .bipush 97, 2), (50, .aload_n 0, 1), (51, .getfield 7, 3), (54, .iload 5, 2), (56, .iconst 1, 1), (57, .iadd, 1), (58, .iload 6, 2), (60, .iadd, 1), (61, .iaload, 1), (62, .iadd, 1), (63, .iconst 1, 1), (64, .isub, 1), (65, .iastore, 1), (66, .iinc 3 1, 3), (69, .iinc 6 1, 3), (72, .goto (-45), 3), (75, .iinc 4 1, 3), (78, .goto (-73), 3), (81, .aload_n 0, 1), (82, .getfield 7, 3), (85, .sipush 16507, 3)] = true := by decide +kernel
theorem dX11_isTrue_43 : decode cX11_isTrue 43 = .ok (.sipush 16800, 3) := kq.at kqdX11_isTrue_43 0 rfl
theorem dX11_isTrue_46 : decode cX11_isTrue 46 = .ok (.iload_n 3, 1) := kq.at kqdX11_isTrue_43 1 rfl
theorem dX11_isTrue_47 : decode cX11_isTrue 47 = .ok (.iadd, 1) := kq.at kqdX11_isTrue_43 2 rfl
theorem dX11_isTrue_48 : decode cX11_isTrue 48 = .ok (.bipush 97, 2) := kq.at kqdX11_isTrue_43 3 rfl
theorem dX11_isTrue_50 : decode cX11_isTrue 50 = .ok (.aload_n 0, 1) := kq.at kqdX11_isTrue_43 4 rfl
theorem dX11_isTrue_51 : decode cX11_isTrue 51 = .ok (.getfield 7, 3) := kq.at kqdX11_isTrue_43 5 rfl
theorem dX11_isTrue_54 : decode cX11_isTrue 54 = .ok (.iload 5, 2) := kq.at kqdX11_isTrue_43 6 rfl
theorem dX11_isTrue_56 : decode cX11_isTrue 56 = .ok (.iconst 1, 1) := kq.at kqdX11_isTrue_43 7 rfl
theorem dX11_isTrue_57 : decode cX11_isTrue 57 = .ok (.iadd, 1) := kq.at kqdX11_isTrue_43 8 rfl
theorem dX11_isTrue_58 : decode cX11_isTrue 58 = .ok (.iload 6, 2) := kq.at kqdX11_isTrue_43 9 rfl
theorem dX11_isTrue_60 : decode cX11_isTrue 60 = .ok (.iadd, 1) := kq.at kqdX11_isTrue_43 10 rfl
theorem dX11_isTrue_61 : decode cX11_isTrue 61 = .ok (.iaload, 1) := kq.at kqdX11_isTrue_43 11 rfl
theorem dX11_isTrue_62 : decode cX11_isTrue 62 = .ok (.iadd, 1) := kq.at kqdX11_isTrue_43 12 rfl
theorem dX11_isTrue_63 : decode cX11_isTrue 63 = .ok (.iconst 1, 1) := kq.at kqdX11_isTrue_43 13 rfl
theorem dX11_isTrue_64 : decode cX11_isTrue 64 = .ok (.isub, 1) := kq.at kqdX11_isTrue_43 14 rfl
theorem dX11_isTrue_65 : decode cX11_isTrue 65 = .ok (.iastore, 1) := kq.at kqdX11_isTrue_43 15 rfl
theorem dX11_isTrue_66 : decode cX11_isTrue 66 = .ok (.iinc 3 1, 3) := kq.at kqdX11_isTrue_43 16 rfl
theorem dX11_isTrue_69 : decode cX11_isTrue 69 = .ok (.iinc 6 1, 3) := kq.at kqdX11_isTrue_43 17 rfl
theorem dX11_isTrue_72 : decode cX11_isTrue 72 = .ok (.goto (-45), 3) := kq.at kqdX11_isTrue_43 18 rfl
theorem dX11_isTrue_75 : decode cX11_isTrue 75 = .ok (.iinc 4 1, 3) := kq.at kqdX11_isTrue_43 19 rfl
theorem dX11_isTrue_78 : decode cX11_isTrue 78 = .ok (.goto (-73), 3) := kq.at kqdX11_isTrue_43 20 rfl
theorem dX11_isTrue_81 : decode cX11_isTrue 81 = .ok (.aload_n 0, 1) := kq.at kqdX11_isTrue_43 21 rfl
theorem dX11_isTrue_82 : decode cX11_isTrue 82 = .ok (.getfield 7, 3) := kq.at kqdX11_isTrue_43 22 rfl
theorem dX11_isTrue_85 : decode cX11_isTrue 85 = .ok (.sipush 16507, 3) := kq.at kqdX11_isTrue_43 23 rfl
theorem kqdX11_isTrue_88 : kq cX11_isTrue [(88, .iload_n 3, 1), (89, .iastore, 1), (90, .aload_n 0, 1), (91, .aload_n 0, 1), (92, .getfield 7, 3), (95, .bipush 6, 2), (97, .iaload, 1), (98, .invokevirtual 291, 3), (101, .ifCond .eq 15, 3), (104, .aload_n 0, 1), (105, .getfield 7, 3), (108, .sipush 16508, 3), (111, .iaload, 1), (112, .iload_n 2, 1), (113, .if_icmp .eq 5, 3), (116, .iconst 0, 1), (117, .ireturn, 1), (118, .iconst 0, 1), (119, .istore 4, 2), (121, .iload 4, 2), (123, .iload_n 2, 1), (124, .if_icmp .ge 32, 3), (127, .aload_n 0, 1), (128, .getfield 7, 3)] = true := by decide +kernel
theorem dX11_isTrue_88 : decode cX11_isTrue 88 = .ok (.iload_n 3, 1) := kq.at kqdX11_isTrue_88 0 rfl
theorem dX11_isTrue_89 : decode cX11_isTrue 89 = .ok (.iastore, 1) := kq.at kqdX11_isTrue_88 1 rfl
theorem dX11_isTrue_90 : decode cX11_isTrue 90 = .ok (.aload_n 0, 1) := kq.at kqdX11_isTrue_88 2 rfl
theorem dX11_isTrue_91 : decode cX11_isTrue 91 = .ok (.aload_n 0, 1) := kq.at kqdX11_isTrue_88 3 rfl
theorem dX11_isTrue_92 : decode cX11_isTrue 92 = .ok (.getfield 7, 3) := kq.at kqdX11_isTrue_88 4 rfl
theorem dX11_isTrue_95 : decode cX11_isTrue 95 = .ok (.bipush 6, 2) := kq.at kqdX11_isTrue_88 5 rfl
theorem dX11_isTrue_97 : decode cX11_isTrue 97 = .ok (.iaload, 1) := kq.at kqdX11_isTrue_88 6 rfl
theorem dX11_isTrue_98 : decode cX11_isTrue 98 = .ok (.invokevirtual 291, 3) := kq.at kqdX11_isTrue_88 7 rfl
theorem dX11_isTrue_101 : decode cX11_isTrue 101 = .ok (.ifCond .eq 15, 3) := kq.at kqdX11_isTrue_88 8 rfl
theorem dX11_isTrue_104 : decode cX11_isTrue 104 = .ok (.aload_n 0, 1) := kq.at kqdX11_isTrue_88 9 rfl
theorem dX11_isTrue_105 : decode cX11_isTrue 105 = .ok (.getfield 7, 3) := kq.at kqdX11_isTrue_88 10 rfl
theorem dX11_isTrue_108 : decode cX11_isTrue 108 = .ok (.sipush 16508, 3) := kq.at kqdX11_isTrue_88 11 rfl
theorem dX11_isTrue_111 : decode cX11_isTrue 111 = .ok (.iaload, 1) := kq.at kqdX11_isTrue_88 12 rfl
theorem dX11_isTrue_112 : decode cX11_isTrue 112 = .ok (.iload_n 2, 1) := kq.at kqdX11_isTrue_88 13 rfl
theorem dX11_isTrue_113 : decode cX11_isTrue 113 = .ok (.if_icmp .eq 5, 3) := kq.at kqdX11_isTrue_88 14 rfl
theorem dX11_isTrue_116 : decode cX11_isTrue 116 = .ok (.iconst 0, 1) := kq.at kqdX11_isTrue_88 15 rfl
theorem dX11_isTrue_117 : decode cX11_isTrue 117 = .ok (.ireturn, 1) := kq.at kqdX11_isTrue_88 16 rfl
theorem dX11_isTrue_118 : decode cX11_isTrue 118 = .ok (.iconst 0, 1) := kq.at kqdX11_isTrue_88 17 rfl
theorem dX11_isTrue_119 : decode cX11_isTrue 119 = .ok (.istore 4, 2) := kq.at kqdX11_isTrue_88 18 rfl
theorem dX11_isTrue_121 : decode cX11_isTrue 121 = .ok (.iload 4, 2) := kq.at kqdX11_isTrue_88 19 rfl
theorem dX11_isTrue_123 : decode cX11_isTrue 123 = .ok (.iload_n 2, 1) := kq.at kqdX11_isTrue_88 20 rfl
theorem dX11_isTrue_124 : decode cX11_isTrue 124 = .ok (.if_icmp .ge 32, 3) := kq.at kqdX11_isTrue_88 21 rfl
theorem dX11_isTrue_127 : decode cX11_isTrue 127 = .ok (.aload_n 0, 1) := kq.at kqdX11_isTrue_88 22 rfl
theorem dX11_isTrue_128 : decode cX11_isTrue 128 = .ok (.getfield 7, 3) := kq.at kqdX11_isTrue_88 23 rfl
theorem kqdX11_isTrue_131 : kq cX11_isTrue [(131, .sipush 17100, 3), (134, .iload 4, 2), (136, .iadd, 1), (137, .iaload, 1), (138, .aload_n 0, 1), (139, .getfield 62, 3), (142, .iload 4, 2), (144, .iaload, 1), (145, .if_icmp .eq 5, 3), (148, .iconst 0, 1), (149, .ireturn, 1), (150, .iinc 4 1, 3), (153, .goto (-32), 3), (156, .iconst 1, 1), (157, .ireturn, 1)] = true := by decide +kernel
theorem dX11_isTrue_131 : decode cX11_isTrue 131 = .ok (.sipush 17100, 3) := kq.at kqdX11_isTrue_131 0 rfl
theorem dX11_isTrue_134 : decode cX11_isTrue 134 = .ok (.iload 4, 2) := kq.at kqdX11_isTrue_131 1 rfl
theorem dX11_isTrue_136 : decode cX11_isTrue 136 = .ok (.iadd, 1) := kq.at kqdX11_isTrue_131 2 rfl
theorem dX11_isTrue_137 : decode cX11_isTrue 137 = .ok (.iaload, 1) := kq.at kqdX11_isTrue_131 3 rfl
theorem dX11_isTrue_138 : decode cX11_isTrue 138 = .ok (.aload_n 0, 1) := kq.at kqdX11_isTrue_131 4 rfl
theorem dX11_isTrue_139 : decode cX11_isTrue 139 = .ok (.getfield 62, 3) := kq.at kqdX11_isTrue_131 5 rfl
theorem dX11_isTrue_142 : decode cX11_isTrue 142 = .ok (.iload 4, 2) := kq.at kqdX11_isTrue_131 6 rfl
theorem dX11_isTrue_144 : decode cX11_isTrue 144 = .ok (.iaload, 1) := kq.at kqdX11_isTrue_131 7 rfl
theorem dX11_isTrue_145 : decode cX11_isTrue 145 = .ok (.if_icmp .eq 5, 3) := kq.at kqdX11_isTrue_131 8 rfl
theorem dX11_isTrue_148 : decode cX11_isTrue 148 = .ok (.iconst 0, 1) := kq.at kqdX11_isTrue_131 9 rfl
theorem dX11_isTrue_149 : decode cX11_isTrue 149 = .ok (.ireturn, 1) := kq.at kqdX11_isTrue_131 10 rfl
theorem dX11_isTrue_150 : decode cX11_isTrue 150 = .ok (.iinc 4 1, 3) := kq.at kqdX11_isTrue_131 11 rfl
theorem dX11_isTrue_153 : decode cX11_isTrue 153 = .ok (.goto (-32), 3) := kq.at kqdX11_isTrue_131 12 rfl
theorem dX11_isTrue_156 : decode cX11_isTrue 156 = .ok (.iconst 1, 1) := kq.at kqdX11_isTrue_131 13 rfl
theorem dX11_isTrue_157 : decode cX11_isTrue 157 = .ok (.ireturn, 1) := kq.at kqdX11_isTrue_131 14 rfl
theorem kqdX11_truths_0 : kq cX11_truths [(0, .aload_n 0, 1), (1, .iload_n 1, 1), (2, .iload_n 2, 1), (3, .iconst 1, 1), (4, .invokevirtual 373, 3), (7, .istore_n 3, 1), (8, .iload_n 3, 1), (9, .ifCond .le 9, 3), (12, .aload_n 0, 1), (13, .iload_n 3, 1), (14, .invokevirtual 188, 3), (17, .ireturn, 1), (18, .aload_n 0, 1), (19, .iload_n 1, 1), (20, .iload_n 2, 1), (21, .invokevirtual 377, 3), (24, .aload_n 0, 1), (25, .iload_n 2, 1), (26, .invokevirtual 380, 3), (29, .sipush 9999, 3), (32, .if_icmp .le 10, 3), (35, .aload_n 0, 1), (36, .bipush 7, 2), (38, .invokevirtual 188, 3)] = true := by decide +kernel
theorem dX11_truths_0 : decode cX11_truths 0 = .ok (.aload_n 0, 1) := kq.at kqdX11_truths_0 0 rfl
theorem dX11_truths_1 : decode cX11_truths 1 = .ok (.iload_n 1, 1) := kq.at kqdX11_truths_0 1 rfl
theorem dX11_truths_2 : decode cX11_truths 2 = .ok (.iload_n 2, 1) := kq.at kqdX11_truths_0 2 rfl
theorem dX11_truths_3 : decode cX11_truths 3 = .ok (.iconst 1, 1) := kq.at kqdX11_truths_0 3 rfl
theorem dX11_truths_4 : decode cX11_truths 4 = .ok (.invokevirtual 373, 3) := kq.at kqdX11_truths_0 4 rfl
theorem dX11_truths_7 : decode cX11_truths 7 = .ok (.istore_n 3, 1) := kq.at kqdX11_truths_0 5 rfl
theorem dX11_truths_8 : decode cX11_truths 8 = .ok (.iload_n 3, 1) := kq.at kqdX11_truths_0 6 rfl
theorem dX11_truths_9 : decode cX11_truths 9 = .ok (.ifCond .le 9, 3) := kq.at kqdX11_truths_0 7 rfl
theorem dX11_truths_12 : decode cX11_truths 12 = .ok (.aload_n 0, 1) := kq.at kqdX11_truths_0 8 rfl
theorem dX11_truths_13 : decode cX11_truths 13 = .ok (.iload_n 3, 1) := kq.at kqdX11_truths_0 9 rfl
theorem dX11_truths_14 : decode cX11_truths 14 = .ok (.invokevirtual 188, 3) := kq.at kqdX11_truths_0 10 rfl
theorem dX11_truths_17 : decode cX11_truths 17 = .ok (.ireturn, 1) := kq.at kqdX11_truths_0 11 rfl
theorem dX11_truths_18 : decode cX11_truths 18 = .ok (.aload_n 0, 1) := kq.at kqdX11_truths_0 12 rfl
theorem dX11_truths_19 : decode cX11_truths 19 = .ok (.iload_n 1, 1) := kq.at kqdX11_truths_0 13 rfl
theorem dX11_truths_20 : decode cX11_truths 20 = .ok (.iload_n 2, 1) := kq.at kqdX11_truths_0 14 rfl
theorem dX11_truths_21 : decode cX11_truths 21 = .ok (.invokevirtual 377, 3) := kq.at kqdX11_truths_0 15 rfl
theorem dX11_truths_24 : decode cX11_truths 24 = .ok (.aload_n 0, 1) := kq.at kqdX11_truths_0 16 rfl
theorem dX11_truths_25 : decode cX11_truths 25 = .ok (.iload_n 2, 1) := kq.at kqdX11_truths_0 17 rfl
theorem dX11_truths_26 : decode cX11_truths 26 = .ok (.invokevirtual 380, 3) := kq.at kqdX11_truths_0 18 rfl
theorem dX11_truths_29 : decode cX11_truths 29 = .ok (.sipush 9999, 3) := kq.at kqdX11_truths_0 19 rfl
theorem dX11_truths_32 : decode cX11_truths 32 = .ok (.if_icmp .le 10, 3) := kq.at kqdX11_truths_0 20 rfl
theorem dX11_truths_35 : decode cX11_truths 35 = .ok (.aload_n 0, 1) := kq.at kqdX11_truths_0 21 rfl
theorem dX11_truths_36 : decode cX11_truths 36 = .ok (.bipush 7, 2) := kq.at kqdX11_truths_0 22 rfl
theorem dX11_truths_38 : decode cX11_truths 38 = .ok (.invokevirtual 188, 3) := kq.at kqdX11_truths_0 23 rfl
theorem kqdX11_truths_41 : kq cX11_truths [(41, .ireturn, 1), (42, .iconst 0, 1), (43, .istore 4, 2), (45, .iconst 0, 1), (46, .istore 5, 2), (48, .aload_n 0, 1), (49, .getfield 77, 3), (52, .iconst 0, 1), (53, .iconst (-1), 1), (54, .iastore, 1), (55, .aload_n 0, 1), (56, .getfield 80, 3), (59, .iconst 0, 1), (60, .iconst 0, 1), (61, .iastore, 1), (62, .iload 5, 2), (64, .ifCond .lt 143, 3), (67, .aload_n 0, 1), (68, .getfield 77, 3), (71, .iload 5, 2), (73, .dup2, 1), (74, .iaload, 1), (75, .iconst 1, 1), (76, .iadd, 1)] = true := by decide +kernel
theorem dX11_truths_41 : decode cX11_truths 41 = .ok (.ireturn, 1) := kq.at kqdX11_truths_41 0 rfl
theorem dX11_truths_42 : decode cX11_truths 42 = .ok (.iconst 0, 1) := kq.at kqdX11_truths_41 1 rfl
theorem dX11_truths_43 : decode cX11_truths 43 = .ok (.istore 4, 2) := kq.at kqdX11_truths_41 2 rfl
theorem dX11_truths_45 : decode cX11_truths 45 = .ok (.iconst 0, 1) := kq.at kqdX11_truths_41 3 rfl
theorem dX11_truths_46 : decode cX11_truths 46 = .ok (.istore 5, 2) := kq.at kqdX11_truths_41 4 rfl
theorem dX11_truths_48 : decode cX11_truths 48 = .ok (.aload_n 0, 1) := kq.at kqdX11_truths_41 5 rfl
theorem dX11_truths_49 : decode cX11_truths 49 = .ok (.getfield 77, 3) := kq.at kqdX11_truths_41 6 rfl
theorem dX11_truths_52 : decode cX11_truths 52 = .ok (.iconst 0, 1) := kq.at kqdX11_truths_41 7 rfl
theorem dX11_truths_53 : decode cX11_truths 53 = .ok (.iconst (-1), 1) := kq.at kqdX11_truths_41 8 rfl
theorem dX11_truths_54 : decode cX11_truths 54 = .ok (.iastore, 1) := kq.at kqdX11_truths_41 9 rfl
theorem dX11_truths_55 : decode cX11_truths 55 = .ok (.aload_n 0, 1) := kq.at kqdX11_truths_41 10 rfl
theorem dX11_truths_56 : decode cX11_truths 56 = .ok (.getfield 80, 3) := kq.at kqdX11_truths_41 11 rfl
theorem dX11_truths_59 : decode cX11_truths 59 = .ok (.iconst 0, 1) := kq.at kqdX11_truths_41 12 rfl
theorem dX11_truths_60 : decode cX11_truths 60 = .ok (.iconst 0, 1) := kq.at kqdX11_truths_41 13 rfl
theorem dX11_truths_61 : decode cX11_truths 61 = .ok (.iastore, 1) := kq.at kqdX11_truths_41 14 rfl
theorem dX11_truths_62 : decode cX11_truths 62 = .ok (.iload 5, 2) := kq.at kqdX11_truths_41 15 rfl
theorem dX11_truths_64 : decode cX11_truths 64 = .ok (.ifCond .lt 143, 3) := kq.at kqdX11_truths_41 16 rfl
theorem dX11_truths_67 : decode cX11_truths 67 = .ok (.aload_n 0, 1) := kq.at kqdX11_truths_41 17 rfl
theorem dX11_truths_68 : decode cX11_truths 68 = .ok (.getfield 77, 3) := kq.at kqdX11_truths_41 18 rfl
theorem dX11_truths_71 : decode cX11_truths 71 = .ok (.iload 5, 2) := kq.at kqdX11_truths_41 19 rfl
theorem dX11_truths_73 : decode cX11_truths 73 = .ok (.dup2, 1) := kq.at kqdX11_truths_41 20 rfl
theorem dX11_truths_74 : decode cX11_truths 74 = .ok (.iaload, 1) := kq.at kqdX11_truths_41 21 rfl
theorem dX11_truths_75 : decode cX11_truths 75 = .ok (.iconst 1, 1) := kq.at kqdX11_truths_41 22 rfl
theorem dX11_truths_76 : decode cX11_truths 76 = .ok (.iadd, 1) := kq.at kqdX11_truths_41 23 rfl
theorem kqdX11_truths_77 : kq cX11_truths [(77, .iastore, 1), (78, .aload_n 0, 1), (79, .getfield 77, 3), (82, .iload 5, 2), (84, .iaload, 1), (85, .istore 6, 2), (87, .iload 6, 2), (89, .aload_n 0, 1), (90, .getfield 7, 3), (93, .iconst 0, 1), (94, .iaload, 1), (95, .if_icmp .ne 9, 3), (98, .iinc 5 (-1), 3), (101, .goto (-39), 3), (104, .aload_n 0, 1), (105, .iload 6, 2), (107, .aload_n 0, 1), (108, .getfield 80, 3), (111, .iload 5, 2), (113, .iaload, 1), (114, .iload_n 2, 1), (115, .invokevirtual 369, 3), (118, .ifCond .ne 6, 3), (121, .goto (-59), 3)] = true := by decide +kernel
theorem dX11_truths_77 : decode cX11_truths 77 = .ok (.iastore, 1) := kq.at kqdX11_truths_77 0 rfl
theorem dX11_truths_78 : decode cX11_truths 78 = .ok (.aload_n 0, 1) := kq.at kqdX11_truths_77 1 rfl
theorem dX11_truths_79 : decode cX11_truths 79 = .ok (.getfield 77, 3) := kq.at kqdX11_truths_77 2 rfl
theorem dX11_truths_82 : decode cX11_truths 82 = .ok (.iload 5, 2) := kq.at kqdX11_truths_77 3 rfl
theorem dX11_truths_84 : decode cX11_truths 84 = .ok (.iaload, 1) := kq.at kqdX11_truths_77 4 rfl
theorem dX11_truths_85 : decode cX11_truths 85 = .ok (.istore 6, 2) := kq.at kqdX11_truths_77 5 rfl
theorem dX11_truths_87 : decode cX11_truths 87 = .ok (.iload 6, 2) := kq.at kqdX11_truths_77 6 rfl
theorem dX11_truths_89 : decode cX11_truths 89 = .ok (.aload_n 0, 1) := kq.at kqdX11_truths_77 7 rfl
theorem dX11_truths_90 : decode cX11_truths 90 = .ok (.getfield 7, 3) := kq.at kqdX11_truths_77 8 rfl
theorem dX11_truths_93 : decode cX11_truths 93 = .ok (.iconst 0, 1) := kq.at kqdX11_truths_77 9 rfl
theorem dX11_truths_94 : decode cX11_truths 94 = .ok (.iaload, 1) := kq.at kqdX11_truths_77 10 rfl
theorem dX11_truths_95 : decode cX11_truths 95 = .ok (.if_icmp .ne 9, 3) := kq.at kqdX11_truths_77 11 rfl
theorem dX11_truths_98 : decode cX11_truths 98 = .ok (.iinc 5 (-1), 3) := kq.at kqdX11_truths_77 12 rfl
theorem dX11_truths_101 : decode cX11_truths 101 = .ok (.goto (-39), 3) := kq.at kqdX11_truths_77 13 rfl
theorem dX11_truths_104 : decode cX11_truths 104 = .ok (.aload_n 0, 1) := kq.at kqdX11_truths_77 14 rfl
theorem dX11_truths_105 : decode cX11_truths 105 = .ok (.iload 6, 2) := kq.at kqdX11_truths_77 15 rfl
theorem dX11_truths_107 : decode cX11_truths 107 = .ok (.aload_n 0, 1) := kq.at kqdX11_truths_77 16 rfl
theorem dX11_truths_108 : decode cX11_truths 108 = .ok (.getfield 80, 3) := kq.at kqdX11_truths_77 17 rfl
theorem dX11_truths_111 : decode cX11_truths 111 = .ok (.iload 5, 2) := kq.at kqdX11_truths_77 18 rfl
theorem dX11_truths_113 : decode cX11_truths 113 = .ok (.iaload, 1) := kq.at kqdX11_truths_77 19 rfl
theorem dX11_truths_114 : decode cX11_truths 114 = .ok (.iload_n 2, 1) := kq.at kqdX11_truths_77 20 rfl
theorem dX11_truths_115 : decode cX11_truths 115 = .ok (.invokevirtual 369, 3) := kq.at kqdX11_truths_77 21 rfl
theorem dX11_truths_118 : decode cX11_truths 118 = .ok (.ifCond .ne 6, 3) := kq.at kqdX11_truths_77 22 rfl
theorem dX11_truths_121 : decode cX11_truths 121 = .ok (.goto (-59), 3) := kq.at kqdX11_truths_77 23 rfl
theorem kqdX11_truths_124 : kq cX11_truths [(124, .aload_n 0, 1), (125, .getfield 80, 3), (128, .iload 5, 2), (130, .iaload, 1), (131, .aload_n 0, 1), (132, .iload 6, 2), (134, .invokevirtual 300, 3), (137, .iadd, 1), (138, .istore 7, 2), (140, .aload_n 0, 1), (141, .getfield 68, 3), (144, .iload 7, 2), (146, .iaload, 1), (147, .ifCond .ne 6, 3), (150, .goto (-88), 3), (153, .iload 7, 2), (155, .iload_n 2, 1), (156, .if_icmp .ne 28, 3), (159, .iload 4, 2), (161, .aload_n 0, 1), (162, .iload 5, 2), (164, .iconst 1, 1), (165, .iadd, 1), (166, .iload_n 2, 1)] = true := by decide +kernel
theorem dX11_truths_124 : decode cX11_truths 124 = .ok (.aload_n 0, 1) := kq.at kqdX11_truths_124 0 rfl
theorem dX11_truths_125 : decode cX11_truths 125 = .ok (.getfield 80, 3) := kq.at kqdX11_truths_124 1 rfl
theorem dX11_truths_128 : decode cX11_truths 128 = .ok (.iload 5, 2) := kq.at kqdX11_truths_124 2 rfl
theorem dX11_truths_130 : decode cX11_truths 130 = .ok (.iaload, 1) := kq.at kqdX11_truths_124 3 rfl
theorem dX11_truths_131 : decode cX11_truths 131 = .ok (.aload_n 0, 1) := kq.at kqdX11_truths_124 4 rfl
theorem dX11_truths_132 : decode cX11_truths 132 = .ok (.iload 6, 2) := kq.at kqdX11_truths_124 5 rfl
theorem dX11_truths_134 : decode cX11_truths 134 = .ok (.invokevirtual 300, 3) := kq.at kqdX11_truths_124 6 rfl
theorem dX11_truths_137 : decode cX11_truths 137 = .ok (.iadd, 1) := kq.at kqdX11_truths_124 7 rfl
theorem dX11_truths_138 : decode cX11_truths 138 = .ok (.istore 7, 2) := kq.at kqdX11_truths_124 8 rfl
theorem dX11_truths_140 : decode cX11_truths 140 = .ok (.aload_n 0, 1) := kq.at kqdX11_truths_124 9 rfl
theorem dX11_truths_141 : decode cX11_truths 141 = .ok (.getfield 68, 3) := kq.at kqdX11_truths_124 10 rfl
theorem dX11_truths_144 : decode cX11_truths 144 = .ok (.iload 7, 2) := kq.at kqdX11_truths_124 11 rfl
theorem dX11_truths_146 : decode cX11_truths 146 = .ok (.iaload, 1) := kq.at kqdX11_truths_124 12 rfl
theorem dX11_truths_147 : decode cX11_truths 147 = .ok (.ifCond .ne 6, 3) := kq.at kqdX11_truths_124 13 rfl
theorem dX11_truths_150 : decode cX11_truths 150 = .ok (.goto (-88), 3) := kq.at kqdX11_truths_124 14 rfl
theorem dX11_truths_153 : decode cX11_truths 153 = .ok (.iload 7, 2) := kq.at kqdX11_truths_124 15 rfl
theorem dX11_truths_155 : decode cX11_truths 155 = .ok (.iload_n 2, 1) := kq.at kqdX11_truths_124 16 rfl
theorem dX11_truths_156 : decode cX11_truths 156 = .ok (.if_icmp .ne 28, 3) := kq.at kqdX11_truths_124 17 rfl
theorem dX11_truths_159 : decode cX11_truths 159 = .ok (.iload 4, 2) := kq.at kqdX11_truths_124 18 rfl
theorem dX11_truths_161 : decode cX11_truths 161 = .ok (.aload_n 0, 1) := kq.at kqdX11_truths_124 19 rfl
theorem dX11_truths_162 : decode cX11_truths 162 = .ok (.iload 5, 2) := kq.at kqdX11_truths_124 20 rfl
theorem dX11_truths_164 : decode cX11_truths 164 = .ok (.iconst 1, 1) := kq.at kqdX11_truths_124 21 rfl
theorem dX11_truths_165 : decode cX11_truths 165 = .ok (.iadd, 1) := kq.at kqdX11_truths_124 22 rfl
theorem dX11_truths_166 : decode cX11_truths 166 = .ok (.iload_n 2, 1) := kq.at kqdX11_truths_124 23 rfl
theorem kqdX11_truths_167 : kq cX11_truths [(167, .invokevirtual 386, 3), (170, .ifCond .eq 7, 3), (173, .iconst 1, 1), (174, .goto 4, 3), (177, .iconst 0, 1), (178, .iadd, 1), (179, .istore 4, 2), (181, .goto (-119), 3), (184, .iinc 5 1, 3), (187, .aload_n 0, 1), (188, .getfield 77, 3), (191, .iload 5, 2), (193, .iconst (-1), 1), (194, .iastore, 1), (195, .aload_n 0, 1), (196, .getfield 80, 3), (199, .iload 5, 2), (201, .iload 7, 2), (203, .iastore, 1), (204, .goto (-142), 3), (207, .aload_n 0, 1), (208, .iload 4, 2), (210, .invokevirtual 191, 3), (213, .ireturn, 1)] = true := by decide +kernel
theorem dX11_truths_167 : decode cX11_truths 167 = .ok (.invokevirtual 386, 3) := kq.at kqdX11_truths_167 0 rfl
theorem dX11_truths_170 : decode cX11_truths 170 = .ok (.ifCond .eq 7, 3) := kq.at kqdX11_truths_167 1 rfl
theorem dX11_truths_173 : decode cX11_truths 173 = .ok (.iconst 1, 1) := kq.at kqdX11_truths_167 2 rfl
theorem dX11_truths_174 : decode cX11_truths 174 = .ok (.goto 4, 3) := kq.at kqdX11_truths_167 3 rfl
theorem dX11_truths_177 : decode cX11_truths 177 = .ok (.iconst 0, 1) := kq.at kqdX11_truths_167 4 rfl
theorem dX11_truths_178 : decode cX11_truths 178 = .ok (.iadd, 1) := kq.at kqdX11_truths_167 5 rfl
theorem dX11_truths_179 : decode cX11_truths 179 = .ok (.istore 4, 2) := kq.at kqdX11_truths_167 6 rfl
theorem dX11_truths_181 : decode cX11_truths 181 = .ok (.goto (-119), 3) := kq.at kqdX11_truths_167 7 rfl
theorem dX11_truths_184 : decode cX11_truths 184 = .ok (.iinc 5 1, 3) := kq.at kqdX11_truths_167 8 rfl
theorem dX11_truths_187 : decode cX11_truths 187 = .ok (.aload_n 0, 1) := kq.at kqdX11_truths_167 9 rfl
theorem dX11_truths_188 : decode cX11_truths 188 = .ok (.getfield 77, 3) := kq.at kqdX11_truths_167 10 rfl
theorem dX11_truths_191 : decode cX11_truths 191 = .ok (.iload 5, 2) := kq.at kqdX11_truths_167 11 rfl
theorem dX11_truths_193 : decode cX11_truths 193 = .ok (.iconst (-1), 1) := kq.at kqdX11_truths_167 12 rfl
theorem dX11_truths_194 : decode cX11_truths 194 = .ok (.iastore, 1) := kq.at kqdX11_truths_167 13 rfl
theorem dX11_truths_195 : decode cX11_truths 195 = .ok (.aload_n 0, 1) := kq.at kqdX11_truths_167 14 rfl
theorem dX11_truths_196 : decode cX11_truths 196 = .ok (.getfield 80, 3) := kq.at kqdX11_truths_167 15 rfl
theorem dX11_truths_199 : decode cX11_truths 199 = .ok (.iload 5, 2) := kq.at kqdX11_truths_167 16 rfl
theorem dX11_truths_201 : decode cX11_truths 201 = .ok (.iload 7, 2) := kq.at kqdX11_truths_167 17 rfl
theorem dX11_truths_203 : decode cX11_truths 203 = .ok (.iastore, 1) := kq.at kqdX11_truths_167 18 rfl
theorem dX11_truths_204 : decode cX11_truths 204 = .ok (.goto (-142), 3) := kq.at kqdX11_truths_167 19 rfl
theorem dX11_truths_207 : decode cX11_truths 207 = .ok (.aload_n 0, 1) := kq.at kqdX11_truths_167 20 rfl
theorem dX11_truths_208 : decode cX11_truths 208 = .ok (.iload 4, 2) := kq.at kqdX11_truths_167 21 rfl
theorem dX11_truths_210 : decode cX11_truths 210 = .ok (.invokevirtual 191, 3) := kq.at kqdX11_truths_167 22 rfl
theorem dX11_truths_213 : decode cX11_truths 213 = .ok (.ireturn, 1) := kq.at kqdX11_truths_167 23 rfl
theorem kqdX11_failed_0 : kq cX11_failed [(0, .iload_n 2, 1), (1, .invokestatic 109, 3), (4, .ifCond .ne 9, 3), (7, .aload_n 0, 1), (8, .iconst 1, 1), (9, .invokevirtual 188, 3), (12, .ireturn, 1), (13, .aload_n 0, 1), (14, .iload_n 1, 1), (15, .iload_n 3, 1), (16, .iconst 1, 1), (17, .invokevirtual 373, 3), (20, .istore 4, 2), (22, .iload 4, 2), (24, .iconst 1, 1), (25, .if_icmp .ne 9, 3), (28, .aload_n 0, 1), (29, .iconst 1, 1), (30, .invokevirtual 188, 3), (33, .ireturn, 1), (34, .aload_n 0, 1), (35, .getfield 20, 3), (38, .iload_n 1, 1), (39, .iaload, 1)] = true := by decide +kernel
theorem dX11_failed_0 : decode cX11_failed 0 = .ok (.iload_n 2, 1) := kq.at kqdX11_failed_0 0 rfl
theorem dX11_failed_1 : decode cX11_failed 1 = .ok (.invokestatic 109, 3) := kq.at kqdX11_failed_0 1 rfl
theorem dX11_failed_4 : decode cX11_failed 4 = .ok (.ifCond .ne 9, 3) := kq.at kqdX11_failed_0 2 rfl
theorem dX11_failed_7 : decode cX11_failed 7 = .ok (.aload_n 0, 1) := kq.at kqdX11_failed_0 3 rfl
theorem dX11_failed_8 : decode cX11_failed 8 = .ok (.iconst 1, 1) := kq.at kqdX11_failed_0 4 rfl
theorem dX11_failed_9 : decode cX11_failed 9 = .ok (.invokevirtual 188, 3) := kq.at kqdX11_failed_0 5 rfl
theorem dX11_failed_12 : decode cX11_failed 12 = .ok (.ireturn, 1) := kq.at kqdX11_failed_0 6 rfl
theorem dX11_failed_13 : decode cX11_failed 13 = .ok (.aload_n 0, 1) := kq.at kqdX11_failed_0 7 rfl
theorem dX11_failed_14 : decode cX11_failed 14 = .ok (.iload_n 1, 1) := kq.at kqdX11_failed_0 8 rfl
theorem dX11_failed_15 : decode cX11_failed 15 = .ok (.iload_n 3, 1) := kq.at kqdX11_failed_0 9 rfl
theorem dX11_failed_16 : decode cX11_failed 16 = .ok (.iconst 1, 1) := kq.at kqdX11_failed_0 10 rfl
theorem dX11_failed_17 : decode cX11_failed 17 = .ok (.invokevirtual 373, 3) := kq.at kqdX11_failed_0 11 rfl
theorem dX11_failed_20 : decode cX11_failed 20 = .ok (.istore 4, 2) := kq.at kqdX11_failed_0 12 rfl
theorem dX11_failed_22 : decode cX11_failed 22 = .ok (.iload 4, 2) := kq.at kqdX11_failed_0 13 rfl
theorem dX11_failed_24 : decode cX11_failed 24 = .ok (.iconst 1, 1) := kq.at kqdX11_failed_0 14 rfl
theorem dX11_failed_25 : decode cX11_failed 25 = .ok (.if_icmp .ne 9, 3) := kq.at kqdX11_failed_0 15 rfl
theorem dX11_failed_28 : decode cX11_failed 28 = .ok (.aload_n 0, 1) := kq.at kqdX11_failed_0 16 rfl
theorem dX11_failed_29 : decode cX11_failed 29 = .ok (.iconst 1, 1) := kq.at kqdX11_failed_0 17 rfl
theorem dX11_failed_30 : decode cX11_failed 30 = .ok (.invokevirtual 188, 3) := kq.at kqdX11_failed_0 18 rfl
theorem dX11_failed_33 : decode cX11_failed 33 = .ok (.ireturn, 1) := kq.at kqdX11_failed_0 19 rfl
theorem dX11_failed_34 : decode cX11_failed 34 = .ok (.aload_n 0, 1) := kq.at kqdX11_failed_0 20 rfl
theorem dX11_failed_35 : decode cX11_failed 35 = .ok (.getfield 20, 3) := kq.at kqdX11_failed_0 21 rfl
theorem dX11_failed_38 : decode cX11_failed 38 = .ok (.iload_n 1, 1) := kq.at kqdX11_failed_0 22 rfl
theorem dX11_failed_39 : decode cX11_failed 39 = .ok (.iaload, 1) := kq.at kqdX11_failed_0 23 rfl
theorem kqdX11_failed_40 : kq cX11_failed [(40, .iconst (-1), 1), (41, .if_icmp .eq 13, 3), (44, .aload_n 0, 1), (45, .getfield 20, 3), (48, .iload_n 2, 1), (49, .iaload, 1), (50, .iconst (-1), 1), (51, .if_icmp .ne 9, 3), (54, .aload_n 0, 1), (55, .iconst 2, 1), (56, .invokevirtual 188, 3), (59, .ireturn, 1), (60, .aload_n 0, 1), (61, .getfield 20, 3), (64, .iload_n 1, 1), (65, .iaload, 1), (66, .iload_n 3, 1), (67, .if_icmp .lt 13, 3), (70, .aload_n 0, 1), (71, .getfield 20, 3), (74, .iload_n 2, 1), (75, .iaload, 1), (76, .iload_n 3, 1), (77, .if_icmp .ge 9, 3)] = true := by decide +kernel
theorem dX11_failed_40 : decode cX11_failed 40 = .ok (.iconst (-1), 1) := kq.at kqdX11_failed_40 0 rfl
theorem dX11_failed_41 : decode cX11_failed 41 = .ok (.if_icmp .eq 13, 3) := kq.at kqdX11_failed_40 1 rfl
theorem dX11_failed_44 : decode cX11_failed 44 = .ok (.aload_n 0, 1) := kq.at kqdX11_failed_40 2 rfl
theorem dX11_failed_45 : decode cX11_failed 45 = .ok (.getfield 20, 3) := kq.at kqdX11_failed_40 3 rfl
theorem dX11_failed_48 : decode cX11_failed 48 = .ok (.iload_n 2, 1) := kq.at kqdX11_failed_40 4 rfl
theorem dX11_failed_49 : decode cX11_failed 49 = .ok (.iaload, 1) := kq.at kqdX11_failed_40 5 rfl
theorem dX11_failed_50 : decode cX11_failed 50 = .ok (.iconst (-1), 1) := kq.at kqdX11_failed_40 6 rfl
theorem dX11_failed_51 : decode cX11_failed 51 = .ok (.if_icmp .ne 9, 3) := kq.at kqdX11_failed_40 7 rfl
theorem dX11_failed_54 : decode cX11_failed 54 = .ok (.aload_n 0, 1) := kq.at kqdX11_failed_40 8 rfl
theorem dX11_failed_55 : decode cX11_failed 55 = .ok (.iconst 2, 1) := kq.at kqdX11_failed_40 9 rfl
theorem dX11_failed_56 : decode cX11_failed 56 = .ok (.invokevirtual 188, 3) := kq.at kqdX11_failed_40 10 rfl
theorem dX11_failed_59 : decode cX11_failed 59 = .ok (.ireturn, 1) := kq.at kqdX11_failed_40 11 rfl
theorem dX11_failed_60 : decode cX11_failed 60 = .ok (.aload_n 0, 1) := kq.at kqdX11_failed_40 12 rfl
theorem dX11_failed_61 : decode cX11_failed 61 = .ok (.getfield 20, 3) := kq.at kqdX11_failed_40 13 rfl
theorem dX11_failed_64 : decode cX11_failed 64 = .ok (.iload_n 1, 1) := kq.at kqdX11_failed_40 14 rfl
theorem dX11_failed_65 : decode cX11_failed 65 = .ok (.iaload, 1) := kq.at kqdX11_failed_40 15 rfl
theorem dX11_failed_66 : decode cX11_failed 66 = .ok (.iload_n 3, 1) := kq.at kqdX11_failed_40 16 rfl
theorem dX11_failed_67 : decode cX11_failed 67 = .ok (.if_icmp .lt 13, 3) := kq.at kqdX11_failed_40 17 rfl
theorem dX11_failed_70 : decode cX11_failed 70 = .ok (.aload_n 0, 1) := kq.at kqdX11_failed_40 18 rfl
theorem dX11_failed_71 : decode cX11_failed 71 = .ok (.getfield 20, 3) := kq.at kqdX11_failed_40 19 rfl
theorem dX11_failed_74 : decode cX11_failed 74 = .ok (.iload_n 2, 1) := kq.at kqdX11_failed_40 20 rfl
theorem dX11_failed_75 : decode cX11_failed 75 = .ok (.iaload, 1) := kq.at kqdX11_failed_40 21 rfl
theorem dX11_failed_76 : decode cX11_failed 76 = .ok (.iload_n 3, 1) := kq.at kqdX11_failed_40 22 rfl
theorem dX11_failed_77 : decode cX11_failed 77 = .ok (.if_icmp .ge 9, 3) := kq.at kqdX11_failed_40 23 rfl
theorem kqdX11_failed_80 : kq cX11_failed [(80, .aload_n 0, 1), (81, .iconst 3, 1), (82, .invokevirtual 188, 3), (85, .ireturn, 1), (86, .iload 4, 2), (88, .ifCond .gt 13, 3), (91, .aload_n 0, 1), (92, .iload_n 2, 1), (93, .iload_n 3, 1), (94, .iconst 0, 1), (95, .invokevirtual 373, 3), (98, .ifCond .le 9, 3), (101, .aload_n 0, 1), (102, .iconst 5, 1), (103, .invokevirtual 188, 3), (106, .ireturn, 1), (107, .aload_n 0, 1), (108, .iload_n 1, 1), (109, .iload_n 3, 1), (110, .invokevirtual 377, 3), (113, .iconst 0, 1), (114, .istore 5, 2), (116, .iload 5, 2), (118, .iload_n 3, 1)] = true := by decide +kernel
theorem dX11_failed_80 : decode cX11_failed 80 = .ok (.aload_n 0, 1) := kq.at kqdX11_failed_80 0 rfl
theorem dX11_failed_81 : decode cX11_failed 81 = .ok (.iconst 3, 1) := kq.at kqdX11_failed_80 1 rfl
theorem dX11_failed_82 : decode cX11_failed 82 = .ok (.invokevirtual 188, 3) := kq.at kqdX11_failed_80 2 rfl
theorem dX11_failed_85 : decode cX11_failed 85 = .ok (.ireturn, 1) := kq.at kqdX11_failed_80 3 rfl
theorem dX11_failed_86 : decode cX11_failed 86 = .ok (.iload 4, 2) := kq.at kqdX11_failed_80 4 rfl
theorem dX11_failed_88 : decode cX11_failed 88 = .ok (.ifCond .gt 13, 3) := kq.at kqdX11_failed_80 5 rfl
theorem dX11_failed_91 : decode cX11_failed 91 = .ok (.aload_n 0, 1) := kq.at kqdX11_failed_80 6 rfl
theorem dX11_failed_92 : decode cX11_failed 92 = .ok (.iload_n 2, 1) := kq.at kqdX11_failed_80 7 rfl
theorem dX11_failed_93 : decode cX11_failed 93 = .ok (.iload_n 3, 1) := kq.at kqdX11_failed_80 8 rfl
theorem dX11_failed_94 : decode cX11_failed 94 = .ok (.iconst 0, 1) := kq.at kqdX11_failed_80 9 rfl
theorem dX11_failed_95 : decode cX11_failed 95 = .ok (.invokevirtual 373, 3) := kq.at kqdX11_failed_80 10 rfl
theorem dX11_failed_98 : decode cX11_failed 98 = .ok (.ifCond .le 9, 3) := kq.at kqdX11_failed_80 11 rfl
theorem dX11_failed_101 : decode cX11_failed 101 = .ok (.aload_n 0, 1) := kq.at kqdX11_failed_80 12 rfl
theorem dX11_failed_102 : decode cX11_failed 102 = .ok (.iconst 5, 1) := kq.at kqdX11_failed_80 13 rfl
theorem dX11_failed_103 : decode cX11_failed 103 = .ok (.invokevirtual 188, 3) := kq.at kqdX11_failed_80 14 rfl
theorem dX11_failed_106 : decode cX11_failed 106 = .ok (.ireturn, 1) := kq.at kqdX11_failed_80 15 rfl
theorem dX11_failed_107 : decode cX11_failed 107 = .ok (.aload_n 0, 1) := kq.at kqdX11_failed_80 16 rfl
theorem dX11_failed_108 : decode cX11_failed 108 = .ok (.iload_n 1, 1) := kq.at kqdX11_failed_80 17 rfl
theorem dX11_failed_109 : decode cX11_failed 109 = .ok (.iload_n 3, 1) := kq.at kqdX11_failed_80 18 rfl
theorem dX11_failed_110 : decode cX11_failed 110 = .ok (.invokevirtual 377, 3) := kq.at kqdX11_failed_80 19 rfl
theorem dX11_failed_113 : decode cX11_failed 113 = .ok (.iconst 0, 1) := kq.at kqdX11_failed_80 20 rfl
theorem dX11_failed_114 : decode cX11_failed 114 = .ok (.istore 5, 2) := kq.at kqdX11_failed_80 21 rfl
theorem dX11_failed_116 : decode cX11_failed 116 = .ok (.iload 5, 2) := kq.at kqdX11_failed_80 22 rfl
theorem dX11_failed_118 : decode cX11_failed 118 = .ok (.iload_n 3, 1) := kq.at kqdX11_failed_80 23 rfl
theorem kqdX11_failed_119 : kq cX11_failed [(119, .if_icmp .ge 29, 3), (122, .aload_n 0, 1), (123, .getfield 65, 3), (126, .iload 5, 2), (128, .aload_n 0, 1), (129, .getfield 23, 3), (132, .bipush 60, 2), (134, .iload_n 2, 1), (135, .imul, 1), (136, .iload 5, 2), (138, .iadd, 1), (139, .laload, 1), (140, .l2i, 1), (141, .iastore, 1), (142, .iinc 5 1, 3), (145, .goto (-29), 3), (148, .aload_n 0, 1), (149, .aload_n 0, 1), (150, .iload_n 3, 1), (151, .invokevirtual 380, 3), (154, .invokevirtual 191, 3), (157, .ireturn, 1)] = true := by decide +kernel
theorem dX11_failed_119 : decode cX11_failed 119 = .ok (.if_icmp .ge 29, 3) := kq.at kqdX11_failed_119 0 rfl
theorem dX11_failed_122 : decode cX11_failed 122 = .ok (.aload_n 0, 1) := kq.at kqdX11_failed_119 1 rfl
theorem dX11_failed_123 : decode cX11_failed 123 = .ok (.getfield 65, 3) := kq.at kqdX11_failed_119 2 rfl
theorem dX11_failed_126 : decode cX11_failed 126 = .ok (.iload 5, 2) := kq.at kqdX11_failed_119 3 rfl
theorem dX11_failed_128 : decode cX11_failed 128 = .ok (.aload_n 0, 1) := kq.at kqdX11_failed_119 4 rfl
theorem dX11_failed_129 : decode cX11_failed 129 = .ok (.getfield 23, 3) := kq.at kqdX11_failed_119 5 rfl
theorem dX11_failed_132 : decode cX11_failed 132 = .ok (.bipush 60, 2) := kq.at kqdX11_failed_119 6 rfl
theorem dX11_failed_134 : decode cX11_failed 134 = .ok (.iload_n 2, 1) := kq.at kqdX11_failed_119 7 rfl
theorem dX11_failed_135 : decode cX11_failed 135 = .ok (.imul, 1) := kq.at kqdX11_failed_119 8 rfl
theorem dX11_failed_136 : decode cX11_failed 136 = .ok (.iload 5, 2) := kq.at kqdX11_failed_119 9 rfl
theorem dX11_failed_138 : decode cX11_failed 138 = .ok (.iadd, 1) := kq.at kqdX11_failed_119 10 rfl
theorem dX11_failed_139 : decode cX11_failed 139 = .ok (.laload, 1) := kq.at kqdX11_failed_119 11 rfl
theorem dX11_failed_140 : decode cX11_failed 140 = .ok (.l2i, 1) := kq.at kqdX11_failed_119 12 rfl
theorem dX11_failed_141 : decode cX11_failed 141 = .ok (.iastore, 1) := kq.at kqdX11_failed_119 13 rfl
theorem dX11_failed_142 : decode cX11_failed 142 = .ok (.iinc 5 1, 3) := kq.at kqdX11_failed_119 14 rfl
theorem dX11_failed_145 : decode cX11_failed 145 = .ok (.goto (-29), 3) := kq.at kqdX11_failed_119 15 rfl
theorem dX11_failed_148 : decode cX11_failed 148 = .ok (.aload_n 0, 1) := kq.at kqdX11_failed_119 16 rfl
theorem dX11_failed_149 : decode cX11_failed 149 = .ok (.aload_n 0, 1) := kq.at kqdX11_failed_119 17 rfl
theorem dX11_failed_150 : decode cX11_failed 150 = .ok (.iload_n 3, 1) := kq.at kqdX11_failed_119 18 rfl
theorem dX11_failed_151 : decode cX11_failed 151 = .ok (.invokevirtual 380, 3) := kq.at kqdX11_failed_119 19 rfl
theorem dX11_failed_154 : decode cX11_failed 154 = .ok (.invokevirtual 191, 3) := kq.at kqdX11_failed_119 20 rfl
theorem dX11_failed_157 : decode cX11_failed 157 = .ok (.ireturn, 1) := kq.at kqdX11_failed_119 21 rfl
theorem kqdX11_mirror_0 : kq cX11_mirror [(0, .iload_n 1, 1), (1, .i2l, 1), (2, .lconst 0, 1), (3, .ldc2_w 348, 3), (6, .invokestatic 341, 3), (9, .ifCond .eq 14, 3), (12, .aload_n 0, 1), (13, .iload_n 1, 1), (14, .invokestatic 389, 3), (17, .invokevirtual 191, 3), (20, .goto 8, 3), (23, .aload_n 0, 1), (24, .iconst 1, 1), (25, .invokevirtual 188, 3), (28, .ireturn, 1)] = true := by decide +kernel
theorem dX11_mirror_0 : decode cX11_mirror 0 = .ok (.iload_n 1, 1) := kq.at kqdX11_mirror_0 0 rfl
theorem dX11_mirror_1 : decode cX11_mirror 1 = .ok (.i2l, 1) := kq.at kqdX11_mirror_0 1 rfl
theorem dX11_mirror_2 : decode cX11_mirror 2 = .ok (.lconst 0, 1) := kq.at kqdX11_mirror_0 2 rfl
theorem dX11_mirror_3 : decode cX11_mirror 3 = .ok (.ldc2_w 348, 3) := kq.at kqdX11_mirror_0 3 rfl
theorem dX11_mirror_6 : decode cX11_mirror 6 = .ok (.invokestatic 341, 3) := kq.at kqdX11_mirror_0 4 rfl
theorem dX11_mirror_9 : decode cX11_mirror 9 = .ok (.ifCond .eq 14, 3) := kq.at kqdX11_mirror_0 5 rfl
theorem dX11_mirror_12 : decode cX11_mirror 12 = .ok (.aload_n 0, 1) := kq.at kqdX11_mirror_0 6 rfl
theorem dX11_mirror_13 : decode cX11_mirror 13 = .ok (.iload_n 1, 1) := kq.at kqdX11_mirror_0 7 rfl
theorem dX11_mirror_14 : decode cX11_mirror 14 = .ok (.invokestatic 389, 3) := kq.at kqdX11_mirror_0 8 rfl
theorem dX11_mirror_17 : decode cX11_mirror 17 = .ok (.invokevirtual 191, 3) := kq.at kqdX11_mirror_0 9 rfl
theorem dX11_mirror_20 : decode cX11_mirror 20 = .ok (.goto 8, 3) := kq.at kqdX11_mirror_0 10 rfl
theorem dX11_mirror_23 : decode cX11_mirror 23 = .ok (.aload_n 0, 1) := kq.at kqdX11_mirror_0 11 rfl
theorem dX11_mirror_24 : decode cX11_mirror 24 = .ok (.iconst 1, 1) := kq.at kqdX11_mirror_0 12 rfl
theorem dX11_mirror_25 : decode cX11_mirror 25 = .ok (.invokevirtual 188, 3) := kq.at kqdX11_mirror_0 13 rfl
theorem dX11_mirror_28 : decode cX11_mirror 28 = .ok (.ireturn, 1) := kq.at kqdX11_mirror_0 14 rfl
theorem kqdX11_mirrorOf_0 : kq cX11_mirrorOf [(0, .iload_n 0, 1), (1, .iconst 3, 1), (2, .ishr, 1), (3, .iload_n 0, 1), (4, .bipush 7, 2), (6, .iand, 1), (7, .iconst 3, 1), (8, .ishl, 1), (9, .ior, 1), (10, .ireturn, 1)] = true := by decide +kernel
theorem dX11_mirrorOf_0 : decode cX11_mirrorOf 0 = .ok (.iload_n 0, 1) := kq.at kqdX11_mirrorOf_0 0 rfl
theorem dX11_mirrorOf_1 : decode cX11_mirrorOf 1 = .ok (.iconst 3, 1) := kq.at kqdX11_mirrorOf_0 1 rfl
theorem dX11_mirrorOf_2 : decode cX11_mirrorOf 2 = .ok (.ishr, 1) := kq.at kqdX11_mirrorOf_0 2 rfl
theorem dX11_mirrorOf_3 : decode cX11_mirrorOf 3 = .ok (.iload_n 0, 1) := kq.at kqdX11_mirrorOf_0 3 rfl
theorem dX11_mirrorOf_4 : decode cX11_mirrorOf 4 = .ok (.bipush 7, 2) := kq.at kqdX11_mirrorOf_0 4 rfl
theorem dX11_mirrorOf_6 : decode cX11_mirrorOf 6 = .ok (.iand, 1) := kq.at kqdX11_mirrorOf_0 5 rfl
theorem dX11_mirrorOf_7 : decode cX11_mirrorOf 7 = .ok (.iconst 3, 1) := kq.at kqdX11_mirrorOf_0 6 rfl
theorem dX11_mirrorOf_8 : decode cX11_mirrorOf 8 = .ok (.ishl, 1) := kq.at kqdX11_mirrorOf_0 7 rfl
theorem dX11_mirrorOf_9 : decode cX11_mirrorOf 9 = .ok (.ior, 1) := kq.at kqdX11_mirrorOf_0 8 rfl
theorem dX11_mirrorOf_10 : decode cX11_mirrorOf 10 = .ok (.ireturn, 1) := kq.at kqdX11_mirrorOf_0 9 rfl
theorem kqdX11_isMirror_0 : kq cX11_isMirror [(0, .aload_n 0, 1), (1, .iload_n 1, 1), (2, .invokevirtual 300, 3), (5, .aload_n 0, 1), (6, .iload_n 2, 1), (7, .invokevirtual 300, 3), (10, .if_icmp .eq 5, 3), (13, .iconst 0, 1), (14, .ireturn, 1), (15, .iconst 0, 1), (16, .istore_n 3, 1), (17, .iload_n 3, 1), (18, .aload_n 0, 1), (19, .iload_n 1, 1), (20, .invokevirtual 300, 3), (23, .if_icmp .ge 29, 3), (26, .aload_n 0, 1), (27, .iload_n 2, 1), (28, .iload_n 3, 1), (29, .invokevirtual 303, 3), (32, .aload_n 0, 1), (33, .iload_n 1, 1), (34, .iload_n 3, 1), (35, .invokevirtual 303, 3)] = true := by decide +kernel
theorem dX11_isMirror_0 : decode cX11_isMirror 0 = .ok (.aload_n 0, 1) := kq.at kqdX11_isMirror_0 0 rfl
theorem dX11_isMirror_1 : decode cX11_isMirror 1 = .ok (.iload_n 1, 1) := kq.at kqdX11_isMirror_0 1 rfl
theorem dX11_isMirror_2 : decode cX11_isMirror 2 = .ok (.invokevirtual 300, 3) := kq.at kqdX11_isMirror_0 2 rfl
theorem dX11_isMirror_5 : decode cX11_isMirror 5 = .ok (.aload_n 0, 1) := kq.at kqdX11_isMirror_0 3 rfl
theorem dX11_isMirror_6 : decode cX11_isMirror 6 = .ok (.iload_n 2, 1) := kq.at kqdX11_isMirror_0 4 rfl
theorem dX11_isMirror_7 : decode cX11_isMirror 7 = .ok (.invokevirtual 300, 3) := kq.at kqdX11_isMirror_0 5 rfl
theorem dX11_isMirror_10 : decode cX11_isMirror 10 = .ok (.if_icmp .eq 5, 3) := kq.at kqdX11_isMirror_0 6 rfl
theorem dX11_isMirror_13 : decode cX11_isMirror 13 = .ok (.iconst 0, 1) := kq.at kqdX11_isMirror_0 7 rfl
theorem dX11_isMirror_14 : decode cX11_isMirror 14 = .ok (.ireturn, 1) := kq.at kqdX11_isMirror_0 8 rfl
theorem dX11_isMirror_15 : decode cX11_isMirror 15 = .ok (.iconst 0, 1) := kq.at kqdX11_isMirror_0 9 rfl
theorem dX11_isMirror_16 : decode cX11_isMirror 16 = .ok (.istore_n 3, 1) := kq.at kqdX11_isMirror_0 10 rfl
theorem dX11_isMirror_17 : decode cX11_isMirror 17 = .ok (.iload_n 3, 1) := kq.at kqdX11_isMirror_0 11 rfl
theorem dX11_isMirror_18 : decode cX11_isMirror 18 = .ok (.aload_n 0, 1) := kq.at kqdX11_isMirror_0 12 rfl
theorem dX11_isMirror_19 : decode cX11_isMirror 19 = .ok (.iload_n 1, 1) := kq.at kqdX11_isMirror_0 13 rfl
theorem dX11_isMirror_20 : decode cX11_isMirror 20 = .ok (.invokevirtual 300, 3) := kq.at kqdX11_isMirror_0 14 rfl
theorem dX11_isMirror_23 : decode cX11_isMirror 23 = .ok (.if_icmp .ge 29, 3) := kq.at kqdX11_isMirror_0 15 rfl
theorem dX11_isMirror_26 : decode cX11_isMirror 26 = .ok (.aload_n 0, 1) := kq.at kqdX11_isMirror_0 16 rfl
theorem dX11_isMirror_27 : decode cX11_isMirror 27 = .ok (.iload_n 2, 1) := kq.at kqdX11_isMirror_0 17 rfl
theorem dX11_isMirror_28 : decode cX11_isMirror 28 = .ok (.iload_n 3, 1) := kq.at kqdX11_isMirror_0 18 rfl
theorem dX11_isMirror_29 : decode cX11_isMirror 29 = .ok (.invokevirtual 303, 3) := kq.at kqdX11_isMirror_0 19 rfl
theorem dX11_isMirror_32 : decode cX11_isMirror 32 = .ok (.aload_n 0, 1) := kq.at kqdX11_isMirror_0 20 rfl
theorem dX11_isMirror_33 : decode cX11_isMirror 33 = .ok (.iload_n 1, 1) := kq.at kqdX11_isMirror_0 21 rfl
theorem dX11_isMirror_34 : decode cX11_isMirror 34 = .ok (.iload_n 3, 1) := kq.at kqdX11_isMirror_0 22 rfl
theorem dX11_isMirror_35 : decode cX11_isMirror 35 = .ok (.invokevirtual 303, 3) := kq.at kqdX11_isMirror_0 23 rfl
theorem kqdX11_isMirror_38 : kq cX11_isMirror [(38, .invokestatic 389, 3), (41, .if_icmp .eq 5, 3), (44, .iconst 0, 1), (45, .ireturn, 1), (46, .iinc 3 1, 3), (49, .goto (-32), 3), (52, .iconst 1, 1), (53, .ireturn, 1)] = true := by decide +kernel
theorem dX11_isMirror_38 : decode cX11_isMirror 38 = .ok (.invokestatic 389, 3) := kq.at kqdX11_isMirror_38 0 rfl
theorem dX11_isMirror_41 : decode cX11_isMirror 41 = .ok (.if_icmp .eq 5, 3) := kq.at kqdX11_isMirror_38 1 rfl
theorem dX11_isMirror_44 : decode cX11_isMirror 44 = .ok (.iconst 0, 1) := kq.at kqdX11_isMirror_38 2 rfl
theorem dX11_isMirror_45 : decode cX11_isMirror 45 = .ok (.ireturn, 1) := kq.at kqdX11_isMirror_38 3 rfl
theorem dX11_isMirror_46 : decode cX11_isMirror 46 = .ok (.iinc 3 1, 3) := kq.at kqdX11_isMirror_38 4 rfl
theorem dX11_isMirror_49 : decode cX11_isMirror 49 = .ok (.goto (-32), 3) := kq.at kqdX11_isMirror_38 5 rfl
theorem dX11_isMirror_52 : decode cX11_isMirror 52 = .ok (.iconst 1, 1) := kq.at kqdX11_isMirror_38 6 rfl
theorem dX11_isMirror_53 : decode cX11_isMirror 53 = .ok (.ireturn, 1) := kq.at kqdX11_isMirror_38 7 rfl
theorem kqdX11_turned_0 : kq cX11_turned [(0, .aload_n 0, 1), (1, .iload_n 1, 1), (2, .invokevirtual 297, 3), (5, .ifCond .ne 9, 3), (8, .aload_n 0, 1), (9, .iconst 1, 1), (10, .invokevirtual 188, 3), (13, .ireturn, 1), (14, .iconst 0, 1), (15, .istore_n 2, 1), (16, .iload_n 2, 1), (17, .aload_n 0, 1), (18, .getfield 7, 3), (21, .iconst 0, 1), (22, .iaload, 1), (23, .if_icmp .ge 24, 3), (26, .aload_n 0, 1), (27, .iload_n 1, 1), (28, .iload_n 2, 1), (29, .invokevirtual 392, 3), (32, .ifCond .eq 9, 3), (35, .aload_n 0, 1), (36, .iload_n 2, 1), (37, .invokevirtual 191, 3)] = true := by decide +kernel
theorem dX11_turned_0 : decode cX11_turned 0 = .ok (.aload_n 0, 1) := kq.at kqdX11_turned_0 0 rfl
theorem dX11_turned_1 : decode cX11_turned 1 = .ok (.iload_n 1, 1) := kq.at kqdX11_turned_0 1 rfl
theorem dX11_turned_2 : decode cX11_turned 2 = .ok (.invokevirtual 297, 3) := kq.at kqdX11_turned_0 2 rfl
theorem dX11_turned_5 : decode cX11_turned 5 = .ok (.ifCond .ne 9, 3) := kq.at kqdX11_turned_0 3 rfl
theorem dX11_turned_8 : decode cX11_turned 8 = .ok (.aload_n 0, 1) := kq.at kqdX11_turned_0 4 rfl
theorem dX11_turned_9 : decode cX11_turned 9 = .ok (.iconst 1, 1) := kq.at kqdX11_turned_0 5 rfl
theorem dX11_turned_10 : decode cX11_turned 10 = .ok (.invokevirtual 188, 3) := kq.at kqdX11_turned_0 6 rfl
theorem dX11_turned_13 : decode cX11_turned 13 = .ok (.ireturn, 1) := kq.at kqdX11_turned_0 7 rfl
theorem dX11_turned_14 : decode cX11_turned 14 = .ok (.iconst 0, 1) := kq.at kqdX11_turned_0 8 rfl
theorem dX11_turned_15 : decode cX11_turned 15 = .ok (.istore_n 2, 1) := kq.at kqdX11_turned_0 9 rfl
theorem dX11_turned_16 : decode cX11_turned 16 = .ok (.iload_n 2, 1) := kq.at kqdX11_turned_0 10 rfl
theorem dX11_turned_17 : decode cX11_turned 17 = .ok (.aload_n 0, 1) := kq.at kqdX11_turned_0 11 rfl
theorem dX11_turned_18 : decode cX11_turned 18 = .ok (.getfield 7, 3) := kq.at kqdX11_turned_0 12 rfl
theorem dX11_turned_21 : decode cX11_turned 21 = .ok (.iconst 0, 1) := kq.at kqdX11_turned_0 13 rfl
theorem dX11_turned_22 : decode cX11_turned 22 = .ok (.iaload, 1) := kq.at kqdX11_turned_0 14 rfl
theorem dX11_turned_23 : decode cX11_turned 23 = .ok (.if_icmp .ge 24, 3) := kq.at kqdX11_turned_0 15 rfl
theorem dX11_turned_26 : decode cX11_turned 26 = .ok (.aload_n 0, 1) := kq.at kqdX11_turned_0 16 rfl
theorem dX11_turned_27 : decode cX11_turned 27 = .ok (.iload_n 1, 1) := kq.at kqdX11_turned_0 17 rfl
theorem dX11_turned_28 : decode cX11_turned 28 = .ok (.iload_n 2, 1) := kq.at kqdX11_turned_0 18 rfl
theorem dX11_turned_29 : decode cX11_turned 29 = .ok (.invokevirtual 392, 3) := kq.at kqdX11_turned_0 19 rfl
theorem dX11_turned_32 : decode cX11_turned 32 = .ok (.ifCond .eq 9, 3) := kq.at kqdX11_turned_0 20 rfl
theorem dX11_turned_35 : decode cX11_turned 35 = .ok (.aload_n 0, 1) := kq.at kqdX11_turned_0 21 rfl
theorem dX11_turned_36 : decode cX11_turned 36 = .ok (.iload_n 2, 1) := kq.at kqdX11_turned_0 22 rfl
theorem dX11_turned_37 : decode cX11_turned 37 = .ok (.invokevirtual 191, 3) := kq.at kqdX11_turned_0 23 rfl
theorem kqdX11_turned_40 : kq cX11_turned [(40, .ireturn, 1), (41, .iinc 2 1, 3), (44, .goto (-28), 3), (47, .aload_n 0, 1), (48, .bipush 6, 2), (50, .invokevirtual 188, 3), (53, .ireturn, 1)] = true := by decide +kernel
theorem dX11_turned_40 : decode cX11_turned 40 = .ok (.ireturn, 1) := kq.at kqdX11_turned_40 0 rfl
theorem dX11_turned_41 : decode cX11_turned 41 = .ok (.iinc 2 1, 3) := kq.at kqdX11_turned_40 1 rfl
theorem dX11_turned_44 : decode cX11_turned 44 = .ok (.goto (-28), 3) := kq.at kqdX11_turned_40 2 rfl
theorem dX11_turned_47 : decode cX11_turned 47 = .ok (.aload_n 0, 1) := kq.at kqdX11_turned_40 3 rfl
theorem dX11_turned_48 : decode cX11_turned 48 = .ok (.bipush 6, 2) := kq.at kqdX11_turned_40 4 rfl
theorem dX11_turned_50 : decode cX11_turned 50 = .ok (.invokevirtual 188, 3) := kq.at kqdX11_turned_40 5 rfl
theorem dX11_turned_53 : decode cX11_turned 53 = .ok (.ireturn, 1) := kq.at kqdX11_turned_40 6 rfl
theorem kqdX11_twins_0 : kq cX11_twins [(0, .iconst 0, 1), (1, .istore_n 1, 1), (2, .iconst 0, 1), (3, .istore_n 2, 1), (4, .iload_n 2, 1), (5, .aload_n 0, 1), (6, .getfield 7, 3), (9, .iconst 0, 1), (10, .iaload, 1), (11, .if_icmp .ge 57, 3), (14, .iconst 0, 1), (15, .istore_n 3, 1), (16, .iload_n 3, 1), (17, .iload_n 2, 1), (18, .if_icmp .ge 44, 3), (21, .iload_n 1, 1), (22, .aload_n 0, 1), (23, .iload_n 2, 1), (24, .iload_n 3, 1), (25, .invokevirtual 395, 3), (28, .ifCond .eq 25, 3), (31, .aload_n 0, 1), (32, .iload_n 2, 1), (33, .iload_n 3, 1)] = true := by decide +kernel
theorem dX11_twins_0 : decode cX11_twins 0 = .ok (.iconst 0, 1) := kq.at kqdX11_twins_0 0 rfl
theorem dX11_twins_1 : decode cX11_twins 1 = .ok (.istore_n 1, 1) := kq.at kqdX11_twins_0 1 rfl
theorem dX11_twins_2 : decode cX11_twins 2 = .ok (.iconst 0, 1) := kq.at kqdX11_twins_0 2 rfl
theorem dX11_twins_3 : decode cX11_twins 3 = .ok (.istore_n 2, 1) := kq.at kqdX11_twins_0 3 rfl
theorem dX11_twins_4 : decode cX11_twins 4 = .ok (.iload_n 2, 1) := kq.at kqdX11_twins_0 4 rfl
theorem dX11_twins_5 : decode cX11_twins 5 = .ok (.aload_n 0, 1) := kq.at kqdX11_twins_0 5 rfl
theorem dX11_twins_6 : decode cX11_twins 6 = .ok (.getfield 7, 3) := kq.at kqdX11_twins_0 6 rfl
theorem dX11_twins_9 : decode cX11_twins 9 = .ok (.iconst 0, 1) := kq.at kqdX11_twins_0 7 rfl
theorem dX11_twins_10 : decode cX11_twins 10 = .ok (.iaload, 1) := kq.at kqdX11_twins_0 8 rfl
theorem dX11_twins_11 : decode cX11_twins 11 = .ok (.if_icmp .ge 57, 3) := kq.at kqdX11_twins_0 9 rfl
theorem dX11_twins_14 : decode cX11_twins 14 = .ok (.iconst 0, 1) := kq.at kqdX11_twins_0 10 rfl
theorem dX11_twins_15 : decode cX11_twins 15 = .ok (.istore_n 3, 1) := kq.at kqdX11_twins_0 11 rfl
theorem dX11_twins_16 : decode cX11_twins 16 = .ok (.iload_n 3, 1) := kq.at kqdX11_twins_0 12 rfl
theorem dX11_twins_17 : decode cX11_twins 17 = .ok (.iload_n 2, 1) := kq.at kqdX11_twins_0 13 rfl
theorem dX11_twins_18 : decode cX11_twins 18 = .ok (.if_icmp .ge 44, 3) := kq.at kqdX11_twins_0 14 rfl
theorem dX11_twins_21 : decode cX11_twins 21 = .ok (.iload_n 1, 1) := kq.at kqdX11_twins_0 15 rfl
theorem dX11_twins_22 : decode cX11_twins 22 = .ok (.aload_n 0, 1) := kq.at kqdX11_twins_0 16 rfl
theorem dX11_twins_23 : decode cX11_twins 23 = .ok (.iload_n 2, 1) := kq.at kqdX11_twins_0 17 rfl
theorem dX11_twins_24 : decode cX11_twins 24 = .ok (.iload_n 3, 1) := kq.at kqdX11_twins_0 18 rfl
theorem dX11_twins_25 : decode cX11_twins 25 = .ok (.invokevirtual 395, 3) := kq.at kqdX11_twins_0 19 rfl
theorem dX11_twins_28 : decode cX11_twins 28 = .ok (.ifCond .eq 25, 3) := kq.at kqdX11_twins_0 20 rfl
theorem dX11_twins_31 : decode cX11_twins 31 = .ok (.aload_n 0, 1) := kq.at kqdX11_twins_0 21 rfl
theorem dX11_twins_32 : decode cX11_twins 32 = .ok (.iload_n 2, 1) := kq.at kqdX11_twins_0 22 rfl
theorem dX11_twins_33 : decode cX11_twins 33 = .ok (.iload_n 3, 1) := kq.at kqdX11_twins_0 23 rfl
theorem kqdX11_twins_34 : kq cX11_twins [(34, .invokevirtual 398, 3), (37, .ifCond .eq 16, 3), (40, .aload_n 0, 1), (41, .iload_n 3, 1), (42, .iload_n 2, 1), (43, .invokevirtual 398, 3), (46, .ifCond .eq 7, 3), (49, .iconst 1, 1), (50, .goto 4, 3), (53, .iconst 0, 1), (54, .iadd, 1), (55, .istore_n 1, 1), (56, .iinc 3 1, 3), (59, .goto (-43), 3), (62, .iinc 2 1, 3), (65, .goto (-61), 3), (68, .aload_n 0, 1), (69, .iload_n 1, 1), (70, .invokevirtual 191, 3), (73, .ireturn, 1)] = true := by decide +kernel
theorem dX11_twins_34 : decode cX11_twins 34 = .ok (.invokevirtual 398, 3) := kq.at kqdX11_twins_34 0 rfl
theorem dX11_twins_37 : decode cX11_twins 37 = .ok (.ifCond .eq 16, 3) := kq.at kqdX11_twins_34 1 rfl
theorem dX11_twins_40 : decode cX11_twins 40 = .ok (.aload_n 0, 1) := kq.at kqdX11_twins_34 2 rfl
theorem dX11_twins_41 : decode cX11_twins 41 = .ok (.iload_n 3, 1) := kq.at kqdX11_twins_34 3 rfl
theorem dX11_twins_42 : decode cX11_twins 42 = .ok (.iload_n 2, 1) := kq.at kqdX11_twins_34 4 rfl
theorem dX11_twins_43 : decode cX11_twins 43 = .ok (.invokevirtual 398, 3) := kq.at kqdX11_twins_34 5 rfl
theorem dX11_twins_46 : decode cX11_twins 46 = .ok (.ifCond .eq 7, 3) := kq.at kqdX11_twins_34 6 rfl
theorem dX11_twins_49 : decode cX11_twins 49 = .ok (.iconst 1, 1) := kq.at kqdX11_twins_34 7 rfl
theorem dX11_twins_50 : decode cX11_twins 50 = .ok (.goto 4, 3) := kq.at kqdX11_twins_34 8 rfl
theorem dX11_twins_53 : decode cX11_twins 53 = .ok (.iconst 0, 1) := kq.at kqdX11_twins_34 9 rfl
theorem dX11_twins_54 : decode cX11_twins 54 = .ok (.iadd, 1) := kq.at kqdX11_twins_34 10 rfl
theorem dX11_twins_55 : decode cX11_twins 55 = .ok (.istore_n 1, 1) := kq.at kqdX11_twins_34 11 rfl
theorem dX11_twins_56 : decode cX11_twins 56 = .ok (.iinc 3 1, 3) := kq.at kqdX11_twins_34 12 rfl
theorem dX11_twins_59 : decode cX11_twins 59 = .ok (.goto (-43), 3) := kq.at kqdX11_twins_34 13 rfl
theorem dX11_twins_62 : decode cX11_twins 62 = .ok (.iinc 2 1, 3) := kq.at kqdX11_twins_34 14 rfl
theorem dX11_twins_65 : decode cX11_twins 65 = .ok (.goto (-61), 3) := kq.at kqdX11_twins_34 15 rfl
theorem dX11_twins_68 : decode cX11_twins 68 = .ok (.aload_n 0, 1) := kq.at kqdX11_twins_34 16 rfl
theorem dX11_twins_69 : decode cX11_twins 69 = .ok (.iload_n 1, 1) := kq.at kqdX11_twins_34 17 rfl
theorem dX11_twins_70 : decode cX11_twins 70 = .ok (.invokevirtual 191, 3) := kq.at kqdX11_twins_34 18 rfl
theorem dX11_twins_73 : decode cX11_twins 73 = .ok (.ireturn, 1) := kq.at kqdX11_twins_34 19 rfl
theorem kqdX11_near_0 : kq cX11_near [(0, .aload_n 0, 1), (1, .iload_n 1, 1), (2, .invokevirtual 297, 3), (5, .ifCond .eq 11, 3), (8, .aload_n 0, 1), (9, .iload_n 2, 1), (10, .invokevirtual 297, 3), (13, .ifCond .ne 9, 3), (16, .aload_n 0, 1), (17, .iconst 1, 1), (18, .invokevirtual 188, 3), (21, .ireturn, 1), (22, .aload_n 0, 1), (23, .iload_n 1, 1), (24, .invokevirtual 300, 3), (27, .aload_n 0, 1), (28, .iload_n 2, 1), (29, .invokevirtual 300, 3), (32, .if_icmp .eq 10, 3), (35, .aload_n 0, 1), (36, .bipush 7, 2), (38, .invokevirtual 188, 3), (41, .ireturn, 1), (42, .iconst 0, 1)] = true := by decide +kernel
theorem dX11_near_0 : decode cX11_near 0 = .ok (.aload_n 0, 1) := kq.at kqdX11_near_0 0 rfl
theorem dX11_near_1 : decode cX11_near 1 = .ok (.iload_n 1, 1) := kq.at kqdX11_near_0 1 rfl
theorem dX11_near_2 : decode cX11_near 2 = .ok (.invokevirtual 297, 3) := kq.at kqdX11_near_0 2 rfl
theorem dX11_near_5 : decode cX11_near 5 = .ok (.ifCond .eq 11, 3) := kq.at kqdX11_near_0 3 rfl
theorem dX11_near_8 : decode cX11_near 8 = .ok (.aload_n 0, 1) := kq.at kqdX11_near_0 4 rfl
theorem dX11_near_9 : decode cX11_near 9 = .ok (.iload_n 2, 1) := kq.at kqdX11_near_0 5 rfl
theorem dX11_near_10 : decode cX11_near 10 = .ok (.invokevirtual 297, 3) := kq.at kqdX11_near_0 6 rfl
theorem dX11_near_13 : decode cX11_near 13 = .ok (.ifCond .ne 9, 3) := kq.at kqdX11_near_0 7 rfl
theorem dX11_near_16 : decode cX11_near 16 = .ok (.aload_n 0, 1) := kq.at kqdX11_near_0 8 rfl
theorem dX11_near_17 : decode cX11_near 17 = .ok (.iconst 1, 1) := kq.at kqdX11_near_0 9 rfl
theorem dX11_near_18 : decode cX11_near 18 = .ok (.invokevirtual 188, 3) := kq.at kqdX11_near_0 10 rfl
theorem dX11_near_21 : decode cX11_near 21 = .ok (.ireturn, 1) := kq.at kqdX11_near_0 11 rfl
theorem dX11_near_22 : decode cX11_near 22 = .ok (.aload_n 0, 1) := kq.at kqdX11_near_0 12 rfl
theorem dX11_near_23 : decode cX11_near 23 = .ok (.iload_n 1, 1) := kq.at kqdX11_near_0 13 rfl
theorem dX11_near_24 : decode cX11_near 24 = .ok (.invokevirtual 300, 3) := kq.at kqdX11_near_0 14 rfl
theorem dX11_near_27 : decode cX11_near 27 = .ok (.aload_n 0, 1) := kq.at kqdX11_near_0 15 rfl
theorem dX11_near_28 : decode cX11_near 28 = .ok (.iload_n 2, 1) := kq.at kqdX11_near_0 16 rfl
theorem dX11_near_29 : decode cX11_near 29 = .ok (.invokevirtual 300, 3) := kq.at kqdX11_near_0 17 rfl
theorem dX11_near_32 : decode cX11_near 32 = .ok (.if_icmp .eq 10, 3) := kq.at kqdX11_near_0 18 rfl
theorem dX11_near_35 : decode cX11_near 35 = .ok (.aload_n 0, 1) := kq.at kqdX11_near_0 19 rfl
theorem dX11_near_36 : decode cX11_near 36 = .ok (.bipush 7, 2) := kq.at kqdX11_near_0 20 rfl
theorem dX11_near_38 : decode cX11_near 38 = .ok (.invokevirtual 188, 3) := kq.at kqdX11_near_0 21 rfl
theorem dX11_near_41 : decode cX11_near 41 = .ok (.ireturn, 1) := kq.at kqdX11_near_0 22 rfl
theorem dX11_near_42 : decode cX11_near 42 = .ok (.iconst 0, 1) := kq.at kqdX11_near_0 23 rfl
theorem kqdX11_near_43 : kq cX11_near [(43, .istore_n 3, 1), (44, .iconst 0, 1), (45, .istore 4, 2), (47, .iload 4, 2), (49, .aload_n 0, 1), (50, .iload_n 1, 1), (51, .invokevirtual 300, 3), (54, .if_icmp .ge 30, 3), (57, .iload_n 3, 1), (58, .aload_n 0, 1), (59, .iload_n 1, 1), (60, .iload 4, 2), (62, .invokevirtual 303, 3), (65, .aload_n 0, 1), (66, .iload_n 2, 1), (67, .iload 4, 2), (69, .invokevirtual 303, 3), (72, .ixor, 1), (73, .invokestatic 336, 3), (76, .iadd, 1), (77, .istore_n 3, 1), (78, .iinc 4 1, 3), (81, .goto (-34), 3), (84, .aload_n 0, 1)] = true := by decide +kernel
theorem dX11_near_43 : decode cX11_near 43 = .ok (.istore_n 3, 1) := kq.at kqdX11_near_43 0 rfl
theorem dX11_near_44 : decode cX11_near 44 = .ok (.iconst 0, 1) := kq.at kqdX11_near_43 1 rfl
theorem dX11_near_45 : decode cX11_near 45 = .ok (.istore 4, 2) := kq.at kqdX11_near_43 2 rfl
theorem dX11_near_47 : decode cX11_near 47 = .ok (.iload 4, 2) := kq.at kqdX11_near_43 3 rfl
theorem dX11_near_49 : decode cX11_near 49 = .ok (.aload_n 0, 1) := kq.at kqdX11_near_43 4 rfl
theorem dX11_near_50 : decode cX11_near 50 = .ok (.iload_n 1, 1) := kq.at kqdX11_near_43 5 rfl
theorem dX11_near_51 : decode cX11_near 51 = .ok (.invokevirtual 300, 3) := kq.at kqdX11_near_43 6 rfl
theorem dX11_near_54 : decode cX11_near 54 = .ok (.if_icmp .ge 30, 3) := kq.at kqdX11_near_43 7 rfl
theorem dX11_near_57 : decode cX11_near 57 = .ok (.iload_n 3, 1) := kq.at kqdX11_near_43 8 rfl
theorem dX11_near_58 : decode cX11_near 58 = .ok (.aload_n 0, 1) := kq.at kqdX11_near_43 9 rfl
theorem dX11_near_59 : decode cX11_near 59 = .ok (.iload_n 1, 1) := kq.at kqdX11_near_43 10 rfl
theorem dX11_near_60 : decode cX11_near 60 = .ok (.iload 4, 2) := kq.at kqdX11_near_43 11 rfl
theorem dX11_near_62 : decode cX11_near 62 = .ok (.invokevirtual 303, 3) := kq.at kqdX11_near_43 12 rfl
theorem dX11_near_65 : decode cX11_near 65 = .ok (.aload_n 0, 1) := kq.at kqdX11_near_43 13 rfl
theorem dX11_near_66 : decode cX11_near 66 = .ok (.iload_n 2, 1) := kq.at kqdX11_near_43 14 rfl
theorem dX11_near_67 : decode cX11_near 67 = .ok (.iload 4, 2) := kq.at kqdX11_near_43 15 rfl
theorem dX11_near_69 : decode cX11_near 69 = .ok (.invokevirtual 303, 3) := kq.at kqdX11_near_43 16 rfl
theorem dX11_near_72 : decode cX11_near 72 = .ok (.ixor, 1) := kq.at kqdX11_near_43 17 rfl
theorem dX11_near_73 : decode cX11_near 73 = .ok (.invokestatic 336, 3) := kq.at kqdX11_near_43 18 rfl
theorem dX11_near_76 : decode cX11_near 76 = .ok (.iadd, 1) := kq.at kqdX11_near_43 19 rfl
theorem dX11_near_77 : decode cX11_near 77 = .ok (.istore_n 3, 1) := kq.at kqdX11_near_43 20 rfl
theorem dX11_near_78 : decode cX11_near 78 = .ok (.iinc 4 1, 3) := kq.at kqdX11_near_43 21 rfl
theorem dX11_near_81 : decode cX11_near 81 = .ok (.goto (-34), 3) := kq.at kqdX11_near_43 22 rfl
theorem dX11_near_84 : decode cX11_near 84 = .ok (.aload_n 0, 1) := kq.at kqdX11_near_43 23 rfl
theorem kqdX11_near_85 : kq cX11_near [(85, .iload_n 3, 1), (86, .invokevirtual 191, 3), (89, .ireturn, 1)] = true := by decide +kernel
theorem dX11_near_85 : decode cX11_near 85 = .ok (.iload_n 3, 1) := kq.at kqdX11_near_85 0 rfl
theorem dX11_near_86 : decode cX11_near 86 = .ok (.invokevirtual 191, 3) := kq.at kqdX11_near_85 1 rfl
theorem dX11_near_89 : decode cX11_near 89 = .ok (.ireturn, 1) := kq.at kqdX11_near_85 2 rfl
theorem kqdX11_doClash_0 : kq cX11_doClash [(0, .aload_n 0, 1), (1, .iload_n 1, 1), (2, .invokevirtual 300, 3), (5, .aload_n 0, 1), (6, .iload_n 2, 1), (7, .invokevirtual 300, 3), (10, .if_icmp .le 5, 3), (13, .iconst 0, 1), (14, .ireturn, 1), (15, .iconst 0, 1), (16, .istore_n 3, 1), (17, .iload_n 3, 1), (18, .aload_n 0, 1), (19, .iload_n 1, 1), (20, .invokevirtual 300, 3), (23, .if_icmp .ge 26, 3), (26, .aload_n 0, 1), (27, .iload_n 1, 1), (28, .iload_n 3, 1), (29, .invokevirtual 303, 3), (32, .aload_n 0, 1), (33, .iload_n 2, 1), (34, .iload_n 3, 1), (35, .invokevirtual 303, 3)] = true := by decide +kernel
theorem dX11_doClash_0 : decode cX11_doClash 0 = .ok (.aload_n 0, 1) := kq.at kqdX11_doClash_0 0 rfl
theorem dX11_doClash_1 : decode cX11_doClash 1 = .ok (.iload_n 1, 1) := kq.at kqdX11_doClash_0 1 rfl
theorem dX11_doClash_2 : decode cX11_doClash 2 = .ok (.invokevirtual 300, 3) := kq.at kqdX11_doClash_0 2 rfl
theorem dX11_doClash_5 : decode cX11_doClash 5 = .ok (.aload_n 0, 1) := kq.at kqdX11_doClash_0 3 rfl
theorem dX11_doClash_6 : decode cX11_doClash 6 = .ok (.iload_n 2, 1) := kq.at kqdX11_doClash_0 4 rfl
theorem dX11_doClash_7 : decode cX11_doClash 7 = .ok (.invokevirtual 300, 3) := kq.at kqdX11_doClash_0 5 rfl
theorem dX11_doClash_10 : decode cX11_doClash 10 = .ok (.if_icmp .le 5, 3) := kq.at kqdX11_doClash_0 6 rfl
theorem dX11_doClash_13 : decode cX11_doClash 13 = .ok (.iconst 0, 1) := kq.at kqdX11_doClash_0 7 rfl
theorem dX11_doClash_14 : decode cX11_doClash 14 = .ok (.ireturn, 1) := kq.at kqdX11_doClash_0 8 rfl
theorem dX11_doClash_15 : decode cX11_doClash 15 = .ok (.iconst 0, 1) := kq.at kqdX11_doClash_0 9 rfl
theorem dX11_doClash_16 : decode cX11_doClash 16 = .ok (.istore_n 3, 1) := kq.at kqdX11_doClash_0 10 rfl
theorem dX11_doClash_17 : decode cX11_doClash 17 = .ok (.iload_n 3, 1) := kq.at kqdX11_doClash_0 11 rfl
theorem dX11_doClash_18 : decode cX11_doClash 18 = .ok (.aload_n 0, 1) := kq.at kqdX11_doClash_0 12 rfl
theorem dX11_doClash_19 : decode cX11_doClash 19 = .ok (.iload_n 1, 1) := kq.at kqdX11_doClash_0 13 rfl
theorem dX11_doClash_20 : decode cX11_doClash 20 = .ok (.invokevirtual 300, 3) := kq.at kqdX11_doClash_0 14 rfl
theorem dX11_doClash_23 : decode cX11_doClash 23 = .ok (.if_icmp .ge 26, 3) := kq.at kqdX11_doClash_0 15 rfl
theorem dX11_doClash_26 : decode cX11_doClash 26 = .ok (.aload_n 0, 1) := kq.at kqdX11_doClash_0 16 rfl
theorem dX11_doClash_27 : decode cX11_doClash 27 = .ok (.iload_n 1, 1) := kq.at kqdX11_doClash_0 17 rfl
theorem dX11_doClash_28 : decode cX11_doClash 28 = .ok (.iload_n 3, 1) := kq.at kqdX11_doClash_0 18 rfl
theorem dX11_doClash_29 : decode cX11_doClash 29 = .ok (.invokevirtual 303, 3) := kq.at kqdX11_doClash_0 19 rfl
theorem dX11_doClash_32 : decode cX11_doClash 32 = .ok (.aload_n 0, 1) := kq.at kqdX11_doClash_0 20 rfl
theorem dX11_doClash_33 : decode cX11_doClash 33 = .ok (.iload_n 2, 1) := kq.at kqdX11_doClash_0 21 rfl
theorem dX11_doClash_34 : decode cX11_doClash 34 = .ok (.iload_n 3, 1) := kq.at kqdX11_doClash_0 22 rfl
theorem dX11_doClash_35 : decode cX11_doClash 35 = .ok (.invokevirtual 303, 3) := kq.at kqdX11_doClash_0 23 rfl
theorem kqdX11_doClash_38 : kq cX11_doClash [(38, .if_icmp .eq 5, 3), (41, .iconst 0, 1), (42, .ireturn, 1), (43, .iinc 3 1, 3), (46, .goto (-29), 3), (49, .iconst 1, 1), (50, .ireturn, 1)] = true := by decide +kernel
theorem dX11_doClash_38 : decode cX11_doClash 38 = .ok (.if_icmp .eq 5, 3) := kq.at kqdX11_doClash_38 0 rfl
theorem dX11_doClash_41 : decode cX11_doClash 41 = .ok (.iconst 0, 1) := kq.at kqdX11_doClash_38 1 rfl
theorem dX11_doClash_42 : decode cX11_doClash 42 = .ok (.ireturn, 1) := kq.at kqdX11_doClash_38 2 rfl
theorem dX11_doClash_43 : decode cX11_doClash 43 = .ok (.iinc 3 1, 3) := kq.at kqdX11_doClash_38 3 rfl
theorem dX11_doClash_46 : decode cX11_doClash 46 = .ok (.goto (-29), 3) := kq.at kqdX11_doClash_38 4 rfl
theorem dX11_doClash_49 : decode cX11_doClash 49 = .ok (.iconst 1, 1) := kq.at kqdX11_doClash_38 5 rfl
theorem dX11_doClash_50 : decode cX11_doClash 50 = .ok (.ireturn, 1) := kq.at kqdX11_doClash_38 6 rfl
theorem kqdX11_clash_0 : kq cX11_clash [(0, .aload_n 0, 1), (1, .iload_n 1, 1), (2, .invokevirtual 297, 3), (5, .ifCond .eq 32, 3), (8, .aload_n 0, 1), (9, .iload_n 2, 1), (10, .invokevirtual 297, 3), (13, .ifCond .eq 24, 3), (16, .aload_n 0, 1), (17, .aload_n 0, 1), (18, .iload_n 1, 1), (19, .iload_n 2, 1), (20, .invokevirtual 398, 3), (23, .ifCond .eq 7, 3), (26, .iconst 1, 1), (27, .goto 4, 3), (30, .iconst 0, 1), (31, .invokevirtual 191, 3), (34, .goto 8, 3), (37, .aload_n 0, 1), (38, .iconst 1, 1), (39, .invokevirtual 188, 3), (42, .ireturn, 1)] = true := by decide +kernel
theorem dX11_clash_0 : decode cX11_clash 0 = .ok (.aload_n 0, 1) := kq.at kqdX11_clash_0 0 rfl
theorem dX11_clash_1 : decode cX11_clash 1 = .ok (.iload_n 1, 1) := kq.at kqdX11_clash_0 1 rfl
theorem dX11_clash_2 : decode cX11_clash 2 = .ok (.invokevirtual 297, 3) := kq.at kqdX11_clash_0 2 rfl
theorem dX11_clash_5 : decode cX11_clash 5 = .ok (.ifCond .eq 32, 3) := kq.at kqdX11_clash_0 3 rfl
theorem dX11_clash_8 : decode cX11_clash 8 = .ok (.aload_n 0, 1) := kq.at kqdX11_clash_0 4 rfl
theorem dX11_clash_9 : decode cX11_clash 9 = .ok (.iload_n 2, 1) := kq.at kqdX11_clash_0 5 rfl
theorem dX11_clash_10 : decode cX11_clash 10 = .ok (.invokevirtual 297, 3) := kq.at kqdX11_clash_0 6 rfl
theorem dX11_clash_13 : decode cX11_clash 13 = .ok (.ifCond .eq 24, 3) := kq.at kqdX11_clash_0 7 rfl
theorem dX11_clash_16 : decode cX11_clash 16 = .ok (.aload_n 0, 1) := kq.at kqdX11_clash_0 8 rfl
theorem dX11_clash_17 : decode cX11_clash 17 = .ok (.aload_n 0, 1) := kq.at kqdX11_clash_0 9 rfl
theorem dX11_clash_18 : decode cX11_clash 18 = .ok (.iload_n 1, 1) := kq.at kqdX11_clash_0 10 rfl
theorem dX11_clash_19 : decode cX11_clash 19 = .ok (.iload_n 2, 1) := kq.at kqdX11_clash_0 11 rfl
theorem dX11_clash_20 : decode cX11_clash 20 = .ok (.invokevirtual 398, 3) := kq.at kqdX11_clash_0 12 rfl
theorem dX11_clash_23 : decode cX11_clash 23 = .ok (.ifCond .eq 7, 3) := kq.at kqdX11_clash_0 13 rfl
theorem dX11_clash_26 : decode cX11_clash 26 = .ok (.iconst 1, 1) := kq.at kqdX11_clash_0 14 rfl
theorem dX11_clash_27 : decode cX11_clash 27 = .ok (.goto 4, 3) := kq.at kqdX11_clash_0 15 rfl
theorem dX11_clash_30 : decode cX11_clash 30 = .ok (.iconst 0, 1) := kq.at kqdX11_clash_0 16 rfl
theorem dX11_clash_31 : decode cX11_clash 31 = .ok (.invokevirtual 191, 3) := kq.at kqdX11_clash_0 17 rfl
theorem dX11_clash_34 : decode cX11_clash 34 = .ok (.goto 8, 3) := kq.at kqdX11_clash_0 18 rfl
theorem dX11_clash_37 : decode cX11_clash 37 = .ok (.aload_n 0, 1) := kq.at kqdX11_clash_0 19 rfl
theorem dX11_clash_38 : decode cX11_clash 38 = .ok (.iconst 1, 1) := kq.at kqdX11_clash_0 20 rfl
theorem dX11_clash_39 : decode cX11_clash 39 = .ok (.invokevirtual 188, 3) := kq.at kqdX11_clash_0 21 rfl
theorem dX11_clash_42 : decode cX11_clash 42 = .ok (.ireturn, 1) := kq.at kqdX11_clash_0 22 rfl
theorem kqdX11_areIn_0 : kq cX11_areIn [(0, .iload_n 1, 1), (1, .iload_n 2, 1), (2, .if_icmp .eq 35, 3), (5, .aload_n 0, 1), (6, .getfield 7, 3), (9, .bipush 6, 2), (11, .iaload, 1), (12, .iload_n 1, 1), (13, .invokestatic 249, 3), (16, .ifCond .ne 21, 3), (19, .aload_n 0, 1), (20, .getfield 7, 3), (23, .bipush 6, 2), (25, .iaload, 1), (26, .iload_n 2, 1), (27, .invokestatic 249, 3), (30, .ifCond .ne 7, 3), (33, .iconst 1, 1), (34, .goto 4, 3), (37, .iconst 0, 1), (38, .ireturn, 1)] = true := by decide +kernel
theorem dX11_areIn_0 : decode cX11_areIn 0 = .ok (.iload_n 1, 1) := kq.at kqdX11_areIn_0 0 rfl
theorem dX11_areIn_1 : decode cX11_areIn 1 = .ok (.iload_n 2, 1) := kq.at kqdX11_areIn_0 1 rfl
theorem dX11_areIn_2 : decode cX11_areIn 2 = .ok (.if_icmp .eq 35, 3) := kq.at kqdX11_areIn_0 2 rfl
theorem dX11_areIn_5 : decode cX11_areIn 5 = .ok (.aload_n 0, 1) := kq.at kqdX11_areIn_0 3 rfl
theorem dX11_areIn_6 : decode cX11_areIn 6 = .ok (.getfield 7, 3) := kq.at kqdX11_areIn_0 4 rfl
theorem dX11_areIn_9 : decode cX11_areIn 9 = .ok (.bipush 6, 2) := kq.at kqdX11_areIn_0 5 rfl
theorem dX11_areIn_11 : decode cX11_areIn 11 = .ok (.iaload, 1) := kq.at kqdX11_areIn_0 6 rfl
theorem dX11_areIn_12 : decode cX11_areIn 12 = .ok (.iload_n 1, 1) := kq.at kqdX11_areIn_0 7 rfl
theorem dX11_areIn_13 : decode cX11_areIn 13 = .ok (.invokestatic 249, 3) := kq.at kqdX11_areIn_0 8 rfl
theorem dX11_areIn_16 : decode cX11_areIn 16 = .ok (.ifCond .ne 21, 3) := kq.at kqdX11_areIn_0 9 rfl
theorem dX11_areIn_19 : decode cX11_areIn 19 = .ok (.aload_n 0, 1) := kq.at kqdX11_areIn_0 10 rfl
theorem dX11_areIn_20 : decode cX11_areIn 20 = .ok (.getfield 7, 3) := kq.at kqdX11_areIn_0 11 rfl
theorem dX11_areIn_23 : decode cX11_areIn 23 = .ok (.bipush 6, 2) := kq.at kqdX11_areIn_0 12 rfl
theorem dX11_areIn_25 : decode cX11_areIn 25 = .ok (.iaload, 1) := kq.at kqdX11_areIn_0 13 rfl
theorem dX11_areIn_26 : decode cX11_areIn 26 = .ok (.iload_n 2, 1) := kq.at kqdX11_areIn_0 14 rfl
theorem dX11_areIn_27 : decode cX11_areIn 27 = .ok (.invokestatic 249, 3) := kq.at kqdX11_areIn_0 15 rfl
theorem dX11_areIn_30 : decode cX11_areIn 30 = .ok (.ifCond .ne 7, 3) := kq.at kqdX11_areIn_0 16 rfl
theorem dX11_areIn_33 : decode cX11_areIn 33 = .ok (.iconst 1, 1) := kq.at kqdX11_areIn_0 17 rfl
theorem dX11_areIn_34 : decode cX11_areIn 34 = .ok (.goto 4, 3) := kq.at kqdX11_areIn_0 18 rfl
theorem dX11_areIn_37 : decode cX11_areIn 37 = .ok (.iconst 0, 1) := kq.at kqdX11_areIn_0 19 rfl
theorem dX11_areIn_38 : decode cX11_areIn 38 = .ok (.ireturn, 1) := kq.at kqdX11_areIn_0 20 rfl
theorem kqdX11_clashes_0 : kq cX11_clashes [(0, .iconst 0, 1), (1, .istore_n 1, 1), (2, .iconst 0, 1), (3, .istore_n 2, 1), (4, .iload_n 2, 1), (5, .aload_n 0, 1), (6, .getfield 7, 3), (9, .iconst 0, 1), (10, .iaload, 1), (11, .if_icmp .ge 53, 3), (14, .iconst 0, 1), (15, .istore_n 3, 1), (16, .iload_n 3, 1), (17, .aload_n 0, 1), (18, .getfield 7, 3), (21, .iconst 0, 1), (22, .iaload, 1), (23, .if_icmp .ge 35, 3), (26, .iload_n 1, 1), (27, .aload_n 0, 1), (28, .iload_n 2, 1), (29, .iload_n 3, 1), (30, .invokevirtual 395, 3), (33, .ifCond .eq 16, 3)] = true := by decide +kernel
theorem dX11_clashes_0 : decode cX11_clashes 0 = .ok (.iconst 0, 1) := kq.at kqdX11_clashes_0 0 rfl
theorem dX11_clashes_1 : decode cX11_clashes 1 = .ok (.istore_n 1, 1) := kq.at kqdX11_clashes_0 1 rfl
theorem dX11_clashes_2 : decode cX11_clashes 2 = .ok (.iconst 0, 1) := kq.at kqdX11_clashes_0 2 rfl
theorem dX11_clashes_3 : decode cX11_clashes 3 = .ok (.istore_n 2, 1) := kq.at kqdX11_clashes_0 3 rfl
theorem dX11_clashes_4 : decode cX11_clashes 4 = .ok (.iload_n 2, 1) := kq.at kqdX11_clashes_0 4 rfl
theorem dX11_clashes_5 : decode cX11_clashes 5 = .ok (.aload_n 0, 1) := kq.at kqdX11_clashes_0 5 rfl
theorem dX11_clashes_6 : decode cX11_clashes 6 = .ok (.getfield 7, 3) := kq.at kqdX11_clashes_0 6 rfl
theorem dX11_clashes_9 : decode cX11_clashes 9 = .ok (.iconst 0, 1) := kq.at kqdX11_clashes_0 7 rfl
theorem dX11_clashes_10 : decode cX11_clashes 10 = .ok (.iaload, 1) := kq.at kqdX11_clashes_0 8 rfl
theorem dX11_clashes_11 : decode cX11_clashes 11 = .ok (.if_icmp .ge 53, 3) := kq.at kqdX11_clashes_0 9 rfl
theorem dX11_clashes_14 : decode cX11_clashes 14 = .ok (.iconst 0, 1) := kq.at kqdX11_clashes_0 10 rfl
theorem dX11_clashes_15 : decode cX11_clashes 15 = .ok (.istore_n 3, 1) := kq.at kqdX11_clashes_0 11 rfl
theorem dX11_clashes_16 : decode cX11_clashes 16 = .ok (.iload_n 3, 1) := kq.at kqdX11_clashes_0 12 rfl
theorem dX11_clashes_17 : decode cX11_clashes 17 = .ok (.aload_n 0, 1) := kq.at kqdX11_clashes_0 13 rfl
theorem dX11_clashes_18 : decode cX11_clashes 18 = .ok (.getfield 7, 3) := kq.at kqdX11_clashes_0 14 rfl
theorem dX11_clashes_21 : decode cX11_clashes 21 = .ok (.iconst 0, 1) := kq.at kqdX11_clashes_0 15 rfl
theorem dX11_clashes_22 : decode cX11_clashes 22 = .ok (.iaload, 1) := kq.at kqdX11_clashes_0 16 rfl
theorem dX11_clashes_23 : decode cX11_clashes 23 = .ok (.if_icmp .ge 35, 3) := kq.at kqdX11_clashes_0 17 rfl
theorem dX11_clashes_26 : decode cX11_clashes 26 = .ok (.iload_n 1, 1) := kq.at kqdX11_clashes_0 18 rfl
theorem dX11_clashes_27 : decode cX11_clashes 27 = .ok (.aload_n 0, 1) := kq.at kqdX11_clashes_0 19 rfl
theorem dX11_clashes_28 : decode cX11_clashes 28 = .ok (.iload_n 2, 1) := kq.at kqdX11_clashes_0 20 rfl
theorem dX11_clashes_29 : decode cX11_clashes 29 = .ok (.iload_n 3, 1) := kq.at kqdX11_clashes_0 21 rfl
theorem dX11_clashes_30 : decode cX11_clashes 30 = .ok (.invokevirtual 395, 3) := kq.at kqdX11_clashes_0 22 rfl
theorem dX11_clashes_33 : decode cX11_clashes 33 = .ok (.ifCond .eq 16, 3) := kq.at kqdX11_clashes_0 23 rfl
theorem kqdX11_clashes_36 : kq cX11_clashes [(36, .aload_n 0, 1), (37, .iload_n 2, 1), (38, .iload_n 3, 1), (39, .invokevirtual 398, 3), (42, .ifCond .eq 7, 3), (45, .iconst 1, 1), (46, .goto 4, 3), (49, .iconst 0, 1), (50, .iadd, 1), (51, .istore_n 1, 1), (52, .iinc 3 1, 3), (55, .goto (-39), 3), (58, .iinc 2 1, 3), (61, .goto (-57), 3), (64, .aload_n 0, 1), (65, .iload_n 1, 1), (66, .invokevirtual 191, 3), (69, .ireturn, 1)] = true := by decide +kernel
theorem dX11_clashes_36 : decode cX11_clashes 36 = .ok (.aload_n 0, 1) := kq.at kqdX11_clashes_36 0 rfl
theorem dX11_clashes_37 : decode cX11_clashes 37 = .ok (.iload_n 2, 1) := kq.at kqdX11_clashes_36 1 rfl
theorem dX11_clashes_38 : decode cX11_clashes 38 = .ok (.iload_n 3, 1) := kq.at kqdX11_clashes_36 2 rfl
theorem dX11_clashes_39 : decode cX11_clashes 39 = .ok (.invokevirtual 398, 3) := kq.at kqdX11_clashes_36 3 rfl
theorem dX11_clashes_42 : decode cX11_clashes 42 = .ok (.ifCond .eq 7, 3) := kq.at kqdX11_clashes_36 4 rfl
theorem dX11_clashes_45 : decode cX11_clashes 45 = .ok (.iconst 1, 1) := kq.at kqdX11_clashes_36 5 rfl
theorem dX11_clashes_46 : decode cX11_clashes 46 = .ok (.goto 4, 3) := kq.at kqdX11_clashes_36 6 rfl
theorem dX11_clashes_49 : decode cX11_clashes 49 = .ok (.iconst 0, 1) := kq.at kqdX11_clashes_36 7 rfl
theorem dX11_clashes_50 : decode cX11_clashes 50 = .ok (.iadd, 1) := kq.at kqdX11_clashes_36 8 rfl
theorem dX11_clashes_51 : decode cX11_clashes 51 = .ok (.istore_n 1, 1) := kq.at kqdX11_clashes_36 9 rfl
theorem dX11_clashes_52 : decode cX11_clashes 52 = .ok (.iinc 3 1, 3) := kq.at kqdX11_clashes_36 10 rfl
theorem dX11_clashes_55 : decode cX11_clashes 55 = .ok (.goto (-39), 3) := kq.at kqdX11_clashes_36 11 rfl
theorem dX11_clashes_58 : decode cX11_clashes 58 = .ok (.iinc 2 1, 3) := kq.at kqdX11_clashes_36 12 rfl
theorem dX11_clashes_61 : decode cX11_clashes 61 = .ok (.goto (-57), 3) := kq.at kqdX11_clashes_36 13 rfl
theorem dX11_clashes_64 : decode cX11_clashes 64 = .ok (.aload_n 0, 1) := kq.at kqdX11_clashes_36 14 rfl
theorem dX11_clashes_65 : decode cX11_clashes 65 = .ok (.iload_n 1, 1) := kq.at kqdX11_clashes_36 15 rfl
theorem dX11_clashes_66 : decode cX11_clashes 66 = .ok (.invokevirtual 191, 3) := kq.at kqdX11_clashes_36 16 rfl
theorem dX11_clashes_69 : decode cX11_clashes 69 = .ok (.ireturn, 1) := kq.at kqdX11_clashes_36 17 rfl
theorem kqdX11_overOf_0 : kq cX11_overOf [(0, .aload_n 0, 1), (1, .iload_n 1, 1), (2, .invokevirtual 300, 3), (5, .iload_n 2, 1), (6, .isub, 1), (7, .istore_n 3, 1), (8, .iload_n 3, 1), (9, .ifCond .ne 7, 3), (12, .iconst 0, 1), (13, .goto 35, 3), (16, .iload_n 3, 1), (17, .iconst 1, 1), (18, .if_icmp .ne 12, 3), (21, .aload_n 0, 1), (22, .iload_n 1, 1), (23, .iload_n 2, 1), (24, .invokevirtual 303, 3), (27, .goto 21, 3), (30, .bipush 64, 2), (32, .aload_n 0, 1), (33, .iload_n 1, 1), (34, .iload_n 2, 1), (35, .invokevirtual 303, 3), (38, .imul, 1)] = true := by decide +kernel
theorem dX11_overOf_0 : decode cX11_overOf 0 = .ok (.aload_n 0, 1) := kq.at kqdX11_overOf_0 0 rfl
theorem dX11_overOf_1 : decode cX11_overOf 1 = .ok (.iload_n 1, 1) := kq.at kqdX11_overOf_0 1 rfl
theorem dX11_overOf_2 : decode cX11_overOf 2 = .ok (.invokevirtual 300, 3) := kq.at kqdX11_overOf_0 2 rfl
theorem dX11_overOf_5 : decode cX11_overOf 5 = .ok (.iload_n 2, 1) := kq.at kqdX11_overOf_0 3 rfl
theorem dX11_overOf_6 : decode cX11_overOf 6 = .ok (.isub, 1) := kq.at kqdX11_overOf_0 4 rfl
theorem dX11_overOf_7 : decode cX11_overOf 7 = .ok (.istore_n 3, 1) := kq.at kqdX11_overOf_0 5 rfl
theorem dX11_overOf_8 : decode cX11_overOf 8 = .ok (.iload_n 3, 1) := kq.at kqdX11_overOf_0 6 rfl
theorem dX11_overOf_9 : decode cX11_overOf 9 = .ok (.ifCond .ne 7, 3) := kq.at kqdX11_overOf_0 7 rfl
theorem dX11_overOf_12 : decode cX11_overOf 12 = .ok (.iconst 0, 1) := kq.at kqdX11_overOf_0 8 rfl
theorem dX11_overOf_13 : decode cX11_overOf 13 = .ok (.goto 35, 3) := kq.at kqdX11_overOf_0 9 rfl
theorem dX11_overOf_16 : decode cX11_overOf 16 = .ok (.iload_n 3, 1) := kq.at kqdX11_overOf_0 10 rfl
theorem dX11_overOf_17 : decode cX11_overOf 17 = .ok (.iconst 1, 1) := kq.at kqdX11_overOf_0 11 rfl
theorem dX11_overOf_18 : decode cX11_overOf 18 = .ok (.if_icmp .ne 12, 3) := kq.at kqdX11_overOf_0 12 rfl
theorem dX11_overOf_21 : decode cX11_overOf 21 = .ok (.aload_n 0, 1) := kq.at kqdX11_overOf_0 13 rfl
theorem dX11_overOf_22 : decode cX11_overOf 22 = .ok (.iload_n 1, 1) := kq.at kqdX11_overOf_0 14 rfl
theorem dX11_overOf_23 : decode cX11_overOf 23 = .ok (.iload_n 2, 1) := kq.at kqdX11_overOf_0 15 rfl
theorem dX11_overOf_24 : decode cX11_overOf 24 = .ok (.invokevirtual 303, 3) := kq.at kqdX11_overOf_0 16 rfl
theorem dX11_overOf_27 : decode cX11_overOf 27 = .ok (.goto 21, 3) := kq.at kqdX11_overOf_0 17 rfl
theorem dX11_overOf_30 : decode cX11_overOf 30 = .ok (.bipush 64, 2) := kq.at kqdX11_overOf_0 18 rfl
theorem dX11_overOf_32 : decode cX11_overOf 32 = .ok (.aload_n 0, 1) := kq.at kqdX11_overOf_0 19 rfl
theorem dX11_overOf_33 : decode cX11_overOf 33 = .ok (.iload_n 1, 1) := kq.at kqdX11_overOf_0 20 rfl
theorem dX11_overOf_34 : decode cX11_overOf 34 = .ok (.iload_n 2, 1) := kq.at kqdX11_overOf_0 21 rfl
theorem dX11_overOf_35 : decode cX11_overOf 35 = .ok (.invokevirtual 303, 3) := kq.at kqdX11_overOf_0 22 rfl
theorem dX11_overOf_38 : decode cX11_overOf 38 = .ok (.imul, 1) := kq.at kqdX11_overOf_0 23 rfl
theorem kqdX11_overOf_39 : kq cX11_overOf [(39, .aload_n 0, 1), (40, .iload_n 1, 1), (41, .iload_n 2, 1), (42, .iconst 1, 1), (43, .iadd, 1), (44, .invokevirtual 303, 3), (47, .iadd, 1), (48, .ireturn, 1)] = true := by decide +kernel
theorem dX11_overOf_39 : decode cX11_overOf 39 = .ok (.aload_n 0, 1) := kq.at kqdX11_overOf_39 0 rfl
theorem dX11_overOf_40 : decode cX11_overOf 40 = .ok (.iload_n 1, 1) := kq.at kqdX11_overOf_39 1 rfl
theorem dX11_overOf_41 : decode cX11_overOf 41 = .ok (.iload_n 2, 1) := kq.at kqdX11_overOf_39 2 rfl
theorem dX11_overOf_42 : decode cX11_overOf 42 = .ok (.iconst 1, 1) := kq.at kqdX11_overOf_39 3 rfl
theorem dX11_overOf_43 : decode cX11_overOf 43 = .ok (.iadd, 1) := kq.at kqdX11_overOf_39 4 rfl
theorem dX11_overOf_44 : decode cX11_overOf 44 = .ok (.invokevirtual 303, 3) := kq.at kqdX11_overOf_39 5 rfl
theorem dX11_overOf_47 : decode cX11_overOf 47 = .ok (.iadd, 1) := kq.at kqdX11_overOf_39 6 rfl
theorem dX11_overOf_48 : decode cX11_overOf 48 = .ok (.ireturn, 1) := kq.at kqdX11_overOf_39 7 rfl
theorem kqdX11_sizeOf_0 : kq cX11_sizeOf [(0, .iload_n 0, 1), (1, .ifCond .ne 7, 3), (4, .iconst 0, 1), (5, .goto 14, 3), (8, .iload_n 0, 1), (9, .bipush 64, 2), (11, .if_icmp .ge 7, 3), (14, .iconst 1, 1), (15, .goto 4, 3), (18, .iconst 2, 1), (19, .ireturn, 1)] = true := by decide +kernel
theorem dX11_sizeOf_0 : decode cX11_sizeOf 0 = .ok (.iload_n 0, 1) := kq.at kqdX11_sizeOf_0 0 rfl
theorem dX11_sizeOf_1 : decode cX11_sizeOf 1 = .ok (.ifCond .ne 7, 3) := kq.at kqdX11_sizeOf_0 1 rfl
theorem dX11_sizeOf_4 : decode cX11_sizeOf 4 = .ok (.iconst 0, 1) := kq.at kqdX11_sizeOf_0 2 rfl
theorem dX11_sizeOf_5 : decode cX11_sizeOf 5 = .ok (.goto 14, 3) := kq.at kqdX11_sizeOf_0 3 rfl
theorem dX11_sizeOf_8 : decode cX11_sizeOf 8 = .ok (.iload_n 0, 1) := kq.at kqdX11_sizeOf_0 4 rfl
theorem dX11_sizeOf_9 : decode cX11_sizeOf 9 = .ok (.bipush 64, 2) := kq.at kqdX11_sizeOf_0 5 rfl
theorem dX11_sizeOf_11 : decode cX11_sizeOf 11 = .ok (.if_icmp .ge 7, 3) := kq.at kqdX11_sizeOf_0 6 rfl
theorem dX11_sizeOf_14 : decode cX11_sizeOf 14 = .ok (.iconst 1, 1) := kq.at kqdX11_sizeOf_0 7 rfl
theorem dX11_sizeOf_15 : decode cX11_sizeOf 15 = .ok (.goto 4, 3) := kq.at kqdX11_sizeOf_0 8 rfl
theorem dX11_sizeOf_18 : decode cX11_sizeOf 18 = .ok (.iconst 2, 1) := kq.at kqdX11_sizeOf_0 9 rfl
theorem dX11_sizeOf_19 : decode cX11_sizeOf 19 = .ok (.ireturn, 1) := kq.at kqdX11_sizeOf_0 10 rfl
theorem kqdX11_cellIn_0 : kq cX11_cellIn [(0, .iload_n 0, 1), (1, .bipush 64, 2), (3, .if_icmp .ge 7, 3), (6, .iload_n 0, 1), (7, .goto 18, 3), (10, .iload_n 1, 1), (11, .ifCond .ne 10, 3), (14, .iload_n 0, 1), (15, .bipush 64, 2), (17, .idiv, 1), (18, .goto 7, 3), (21, .iload_n 0, 1), (22, .bipush 64, 2), (24, .irem, 1), (25, .ireturn, 1)] = true := by decide +kernel
theorem dX11_cellIn_0 : decode cX11_cellIn 0 = .ok (.iload_n 0, 1) := kq.at kqdX11_cellIn_0 0 rfl
theorem dX11_cellIn_1 : decode cX11_cellIn 1 = .ok (.bipush 64, 2) := kq.at kqdX11_cellIn_0 1 rfl
theorem dX11_cellIn_3 : decode cX11_cellIn 3 = .ok (.if_icmp .ge 7, 3) := kq.at kqdX11_cellIn_0 2 rfl
theorem dX11_cellIn_6 : decode cX11_cellIn 6 = .ok (.iload_n 0, 1) := kq.at kqdX11_cellIn_0 3 rfl
theorem dX11_cellIn_7 : decode cX11_cellIn 7 = .ok (.goto 18, 3) := kq.at kqdX11_cellIn_0 4 rfl
theorem dX11_cellIn_10 : decode cX11_cellIn 10 = .ok (.iload_n 1, 1) := kq.at kqdX11_cellIn_0 5 rfl
theorem dX11_cellIn_11 : decode cX11_cellIn 11 = .ok (.ifCond .ne 10, 3) := kq.at kqdX11_cellIn_0 6 rfl
theorem dX11_cellIn_14 : decode cX11_cellIn 14 = .ok (.iload_n 0, 1) := kq.at kqdX11_cellIn_0 7 rfl
theorem dX11_cellIn_15 : decode cX11_cellIn 15 = .ok (.bipush 64, 2) := kq.at kqdX11_cellIn_0 8 rfl
theorem dX11_cellIn_17 : decode cX11_cellIn 17 = .ok (.idiv, 1) := kq.at kqdX11_cellIn_0 9 rfl
theorem dX11_cellIn_18 : decode cX11_cellIn 18 = .ok (.goto 7, 3) := kq.at kqdX11_cellIn_0 10 rfl
theorem dX11_cellIn_21 : decode cX11_cellIn 21 = .ok (.iload_n 0, 1) := kq.at kqdX11_cellIn_0 11 rfl
theorem dX11_cellIn_22 : decode cX11_cellIn 22 = .ok (.bipush 64, 2) := kq.at kqdX11_cellIn_0 12 rfl
theorem dX11_cellIn_24 : decode cX11_cellIn 24 = .ok (.irem, 1) := kq.at kqdX11_cellIn_0 13 rfl
theorem dX11_cellIn_25 : decode cX11_cellIn 25 = .ok (.ireturn, 1) := kq.at kqdX11_cellIn_0 14 rfl
theorem kqdX11_comesTo_0 : kq cX11_comesTo [(0, .iload_n 2, 1), (1, .aload_n 0, 1), (2, .getfield 83, 3), (5, .iload_n 1, 1), (6, .iaload, 1), (7, .if_icmp .lt 5, 3), (10, .iconst 0, 1), (11, .ireturn, 1), (12, .aload_n 0, 1), (13, .getfield 83, 3), (16, .iload_n 1, 1), (17, .iload_n 2, 1), (18, .iastore, 1), (19, .iconst 1, 1), (20, .ireturn, 1)] = true := by decide +kernel
theorem dX11_comesTo_0 : decode cX11_comesTo 0 = .ok (.iload_n 2, 1) := kq.at kqdX11_comesTo_0 0 rfl
theorem dX11_comesTo_1 : decode cX11_comesTo 1 = .ok (.aload_n 0, 1) := kq.at kqdX11_comesTo_0 1 rfl
theorem dX11_comesTo_2 : decode cX11_comesTo 2 = .ok (.getfield 83, 3) := kq.at kqdX11_comesTo_0 2 rfl
theorem dX11_comesTo_5 : decode cX11_comesTo 5 = .ok (.iload_n 1, 1) := kq.at kqdX11_comesTo_0 3 rfl
theorem dX11_comesTo_6 : decode cX11_comesTo 6 = .ok (.iaload, 1) := kq.at kqdX11_comesTo_0 4 rfl
theorem dX11_comesTo_7 : decode cX11_comesTo 7 = .ok (.if_icmp .lt 5, 3) := kq.at kqdX11_comesTo_0 5 rfl
theorem dX11_comesTo_10 : decode cX11_comesTo 10 = .ok (.iconst 0, 1) := kq.at kqdX11_comesTo_0 6 rfl
theorem dX11_comesTo_11 : decode cX11_comesTo 11 = .ok (.ireturn, 1) := kq.at kqdX11_comesTo_0 7 rfl
theorem dX11_comesTo_12 : decode cX11_comesTo 12 = .ok (.aload_n 0, 1) := kq.at kqdX11_comesTo_0 8 rfl
theorem dX11_comesTo_13 : decode cX11_comesTo 13 = .ok (.getfield 83, 3) := kq.at kqdX11_comesTo_0 9 rfl
theorem dX11_comesTo_16 : decode cX11_comesTo 16 = .ok (.iload_n 1, 1) := kq.at kqdX11_comesTo_0 10 rfl
theorem dX11_comesTo_17 : decode cX11_comesTo 17 = .ok (.iload_n 2, 1) := kq.at kqdX11_comesTo_0 11 rfl
theorem dX11_comesTo_18 : decode cX11_comesTo 18 = .ok (.iastore, 1) := kq.at kqdX11_comesTo_0 12 rfl
theorem dX11_comesTo_19 : decode cX11_comesTo 19 = .ok (.iconst 1, 1) := kq.at kqdX11_comesTo_0 13 rfl
theorem dX11_comesTo_20 : decode cX11_comesTo 20 = .ok (.ireturn, 1) := kq.at kqdX11_comesTo_0 14 rfl
theorem kqdX11_goesOn_0 : kq cX11_goesOn [(0, .iload_n 1, 1), (1, .invokestatic 401, 3), (4, .istore_n 3, 1), (5, .aload_n 0, 1), (6, .iload_n 2, 1), (7, .invokevirtual 300, 3), (10, .istore 4, 2), (12, .iconst 0, 1), (13, .istore 5, 2), (15, .iload 5, 2), (17, .iload_n 3, 1), (18, .if_icmp .ge 34, 3), (21, .iload 5, 2), (23, .iload 4, 2), (25, .if_icmp .ge 27, 3), (28, .iload_n 1, 1), (29, .iload 5, 2), (31, .invokestatic 404, 3), (34, .aload_n 0, 1), (35, .iload_n 2, 1), (36, .iload 5, 2), (38, .invokevirtual 303, 3), (41, .if_icmp .eq 5, 3), (44, .iconst 0, 1)] = true := by decide +kernel
theorem dX11_goesOn_0 : decode cX11_goesOn 0 = .ok (.iload_n 1, 1) := kq.at kqdX11_goesOn_0 0 rfl
theorem dX11_goesOn_1 : decode cX11_goesOn 1 = .ok (.invokestatic 401, 3) := kq.at kqdX11_goesOn_0 1 rfl
theorem dX11_goesOn_4 : decode cX11_goesOn 4 = .ok (.istore_n 3, 1) := kq.at kqdX11_goesOn_0 2 rfl
theorem dX11_goesOn_5 : decode cX11_goesOn 5 = .ok (.aload_n 0, 1) := kq.at kqdX11_goesOn_0 3 rfl
theorem dX11_goesOn_6 : decode cX11_goesOn 6 = .ok (.iload_n 2, 1) := kq.at kqdX11_goesOn_0 4 rfl
theorem dX11_goesOn_7 : decode cX11_goesOn 7 = .ok (.invokevirtual 300, 3) := kq.at kqdX11_goesOn_0 5 rfl
theorem dX11_goesOn_10 : decode cX11_goesOn 10 = .ok (.istore 4, 2) := kq.at kqdX11_goesOn_0 6 rfl
theorem dX11_goesOn_12 : decode cX11_goesOn 12 = .ok (.iconst 0, 1) := kq.at kqdX11_goesOn_0 7 rfl
theorem dX11_goesOn_13 : decode cX11_goesOn 13 = .ok (.istore 5, 2) := kq.at kqdX11_goesOn_0 8 rfl
theorem dX11_goesOn_15 : decode cX11_goesOn 15 = .ok (.iload 5, 2) := kq.at kqdX11_goesOn_0 9 rfl
theorem dX11_goesOn_17 : decode cX11_goesOn 17 = .ok (.iload_n 3, 1) := kq.at kqdX11_goesOn_0 10 rfl
theorem dX11_goesOn_18 : decode cX11_goesOn 18 = .ok (.if_icmp .ge 34, 3) := kq.at kqdX11_goesOn_0 11 rfl
theorem dX11_goesOn_21 : decode cX11_goesOn 21 = .ok (.iload 5, 2) := kq.at kqdX11_goesOn_0 12 rfl
theorem dX11_goesOn_23 : decode cX11_goesOn 23 = .ok (.iload 4, 2) := kq.at kqdX11_goesOn_0 13 rfl
theorem dX11_goesOn_25 : decode cX11_goesOn 25 = .ok (.if_icmp .ge 27, 3) := kq.at kqdX11_goesOn_0 14 rfl
theorem dX11_goesOn_28 : decode cX11_goesOn 28 = .ok (.iload_n 1, 1) := kq.at kqdX11_goesOn_0 15 rfl
theorem dX11_goesOn_29 : decode cX11_goesOn 29 = .ok (.iload 5, 2) := kq.at kqdX11_goesOn_0 16 rfl
theorem dX11_goesOn_31 : decode cX11_goesOn 31 = .ok (.invokestatic 404, 3) := kq.at kqdX11_goesOn_0 17 rfl
theorem dX11_goesOn_34 : decode cX11_goesOn 34 = .ok (.aload_n 0, 1) := kq.at kqdX11_goesOn_0 18 rfl
theorem dX11_goesOn_35 : decode cX11_goesOn 35 = .ok (.iload_n 2, 1) := kq.at kqdX11_goesOn_0 19 rfl
theorem dX11_goesOn_36 : decode cX11_goesOn 36 = .ok (.iload 5, 2) := kq.at kqdX11_goesOn_0 20 rfl
theorem dX11_goesOn_38 : decode cX11_goesOn 38 = .ok (.invokevirtual 303, 3) := kq.at kqdX11_goesOn_0 21 rfl
theorem dX11_goesOn_41 : decode cX11_goesOn 41 = .ok (.if_icmp .eq 5, 3) := kq.at kqdX11_goesOn_0 22 rfl
theorem dX11_goesOn_44 : decode cX11_goesOn 44 = .ok (.iconst 0, 1) := kq.at kqdX11_goesOn_0 23 rfl
theorem kqdX11_goesOn_45 : kq cX11_goesOn [(45, .ireturn, 1), (46, .iinc 5 1, 3), (49, .goto (-34), 3), (52, .iload 4, 2), (54, .iload_n 3, 1), (55, .if_icmp .lt 25, 3), (58, .aload_n 0, 1), (59, .aload_n 0, 1), (60, .iload_n 2, 1), (61, .iload_n 3, 1), (62, .invokevirtual 407, 3), (65, .aload_n 0, 1), (66, .getfield 83, 3), (69, .iload_n 1, 1), (70, .iaload, 1), (71, .iload 4, 2), (73, .iadd, 1), (74, .iload_n 3, 1), (75, .isub, 1), (76, .invokevirtual 410, 3), (79, .ireturn, 1), (80, .aload_n 0, 1), (81, .iload_n 1, 1), (82, .iconst 1, 1)] = true := by decide +kernel
theorem dX11_goesOn_45 : decode cX11_goesOn 45 = .ok (.ireturn, 1) := kq.at kqdX11_goesOn_45 0 rfl
theorem dX11_goesOn_46 : decode cX11_goesOn 46 = .ok (.iinc 5 1, 3) := kq.at kqdX11_goesOn_45 1 rfl
theorem dX11_goesOn_49 : decode cX11_goesOn 49 = .ok (.goto (-34), 3) := kq.at kqdX11_goesOn_45 2 rfl
theorem dX11_goesOn_52 : decode cX11_goesOn 52 = .ok (.iload 4, 2) := kq.at kqdX11_goesOn_45 3 rfl
theorem dX11_goesOn_54 : decode cX11_goesOn 54 = .ok (.iload_n 3, 1) := kq.at kqdX11_goesOn_45 4 rfl
theorem dX11_goesOn_55 : decode cX11_goesOn 55 = .ok (.if_icmp .lt 25, 3) := kq.at kqdX11_goesOn_45 5 rfl
theorem dX11_goesOn_58 : decode cX11_goesOn 58 = .ok (.aload_n 0, 1) := kq.at kqdX11_goesOn_45 6 rfl
theorem dX11_goesOn_59 : decode cX11_goesOn 59 = .ok (.aload_n 0, 1) := kq.at kqdX11_goesOn_45 7 rfl
theorem dX11_goesOn_60 : decode cX11_goesOn 60 = .ok (.iload_n 2, 1) := kq.at kqdX11_goesOn_45 8 rfl
theorem dX11_goesOn_61 : decode cX11_goesOn 61 = .ok (.iload_n 3, 1) := kq.at kqdX11_goesOn_45 9 rfl
theorem dX11_goesOn_62 : decode cX11_goesOn 62 = .ok (.invokevirtual 407, 3) := kq.at kqdX11_goesOn_45 10 rfl
theorem dX11_goesOn_65 : decode cX11_goesOn 65 = .ok (.aload_n 0, 1) := kq.at kqdX11_goesOn_45 11 rfl
theorem dX11_goesOn_66 : decode cX11_goesOn 66 = .ok (.getfield 83, 3) := kq.at kqdX11_goesOn_45 12 rfl
theorem dX11_goesOn_69 : decode cX11_goesOn 69 = .ok (.iload_n 1, 1) := kq.at kqdX11_goesOn_45 13 rfl
theorem dX11_goesOn_70 : decode cX11_goesOn 70 = .ok (.iaload, 1) := kq.at kqdX11_goesOn_45 14 rfl
theorem dX11_goesOn_71 : decode cX11_goesOn 71 = .ok (.iload 4, 2) := kq.at kqdX11_goesOn_45 15 rfl
theorem dX11_goesOn_73 : decode cX11_goesOn 73 = .ok (.iadd, 1) := kq.at kqdX11_goesOn_45 16 rfl
theorem dX11_goesOn_74 : decode cX11_goesOn 74 = .ok (.iload_n 3, 1) := kq.at kqdX11_goesOn_45 17 rfl
theorem dX11_goesOn_75 : decode cX11_goesOn 75 = .ok (.isub, 1) := kq.at kqdX11_goesOn_45 18 rfl
theorem dX11_goesOn_76 : decode cX11_goesOn 76 = .ok (.invokevirtual 410, 3) := kq.at kqdX11_goesOn_45 19 rfl
theorem dX11_goesOn_79 : decode cX11_goesOn 79 = .ok (.ireturn, 1) := kq.at kqdX11_goesOn_45 20 rfl
theorem dX11_goesOn_80 : decode cX11_goesOn 80 = .ok (.aload_n 0, 1) := kq.at kqdX11_goesOn_45 21 rfl
theorem dX11_goesOn_81 : decode cX11_goesOn 81 = .ok (.iload_n 1, 1) := kq.at kqdX11_goesOn_45 22 rfl
theorem dX11_goesOn_82 : decode cX11_goesOn 82 = .ok (.iconst 1, 1) := kq.at kqdX11_goesOn_45 23 rfl
theorem kqdX11_goesOn_83 : kq cX11_goesOn [(83, .invokestatic 404, 3), (86, .aload_n 0, 1), (87, .getfield 83, 3), (90, .iload_n 1, 1), (91, .iaload, 1), (92, .invokevirtual 410, 3), (95, .ireturn, 1)] = true := by decide +kernel
theorem dX11_goesOn_83 : decode cX11_goesOn 83 = .ok (.invokestatic 404, 3) := kq.at kqdX11_goesOn_83 0 rfl
theorem dX11_goesOn_86 : decode cX11_goesOn 86 = .ok (.aload_n 0, 1) := kq.at kqdX11_goesOn_83 1 rfl
theorem dX11_goesOn_87 : decode cX11_goesOn 87 = .ok (.getfield 83, 3) := kq.at kqdX11_goesOn_83 2 rfl
theorem dX11_goesOn_90 : decode cX11_goesOn 90 = .ok (.iload_n 1, 1) := kq.at kqdX11_goesOn_83 3 rfl
theorem dX11_goesOn_91 : decode cX11_goesOn 91 = .ok (.iaload, 1) := kq.at kqdX11_goesOn_83 4 rfl
theorem dX11_goesOn_92 : decode cX11_goesOn 92 = .ok (.invokevirtual 410, 3) := kq.at kqdX11_goesOn_83 5 rfl
theorem dX11_goesOn_95 : decode cX11_goesOn 95 = .ok (.ireturn, 1) := kq.at kqdX11_goesOn_83 6 rfl
theorem kqdX11_twinOf_0 : kq cX11_twinOf [(0, .iconst 0, 1), (1, .istore_n 1, 1), (2, .iload_n 1, 1), (3, .aload_n 0, 1), (4, .getfield 83, 3), (7, .arraylength, 1), (8, .if_icmp .ge 18, 3), (11, .aload_n 0, 1), (12, .getfield 83, 3), (15, .iload_n 1, 1), (16, .ldc_w 362, 3), (19, .iastore, 1), (20, .iinc 1 1, 3), (23, .goto (-21), 3), (26, .iconst 0, 1), (27, .istore_n 1, 1), (28, .iconst 0, 1), (29, .istore_n 2, 1), (30, .iload_n 2, 1), (31, .aload_n 0, 1), (32, .getfield 7, 3), (35, .iconst 0, 1), (36, .iaload, 1), (37, .if_icmp .ge 69, 3)] = true := by decide +kernel
theorem dX11_twinOf_0 : decode cX11_twinOf 0 = .ok (.iconst 0, 1) := kq.at kqdX11_twinOf_0 0 rfl
theorem dX11_twinOf_1 : decode cX11_twinOf 1 = .ok (.istore_n 1, 1) := kq.at kqdX11_twinOf_0 1 rfl
theorem dX11_twinOf_2 : decode cX11_twinOf 2 = .ok (.iload_n 1, 1) := kq.at kqdX11_twinOf_0 2 rfl
theorem dX11_twinOf_3 : decode cX11_twinOf 3 = .ok (.aload_n 0, 1) := kq.at kqdX11_twinOf_0 3 rfl
theorem dX11_twinOf_4 : decode cX11_twinOf 4 = .ok (.getfield 83, 3) := kq.at kqdX11_twinOf_0 4 rfl
theorem dX11_twinOf_7 : decode cX11_twinOf 7 = .ok (.arraylength, 1) := kq.at kqdX11_twinOf_0 5 rfl
theorem dX11_twinOf_8 : decode cX11_twinOf 8 = .ok (.if_icmp .ge 18, 3) := kq.at kqdX11_twinOf_0 6 rfl
theorem dX11_twinOf_11 : decode cX11_twinOf 11 = .ok (.aload_n 0, 1) := kq.at kqdX11_twinOf_0 7 rfl
theorem dX11_twinOf_12 : decode cX11_twinOf 12 = .ok (.getfield 83, 3) := kq.at kqdX11_twinOf_0 8 rfl
theorem dX11_twinOf_15 : decode cX11_twinOf 15 = .ok (.iload_n 1, 1) := kq.at kqdX11_twinOf_0 9 rfl
theorem dX11_twinOf_16 : decode cX11_twinOf 16 = .ok (.ldc_w 362, 3) := kq.at kqdX11_twinOf_0 10 rfl
theorem dX11_twinOf_19 : decode cX11_twinOf 19 = .ok (.iastore, 1) := kq.at kqdX11_twinOf_0 11 rfl
theorem dX11_twinOf_20 : decode cX11_twinOf 20 = .ok (.iinc 1 1, 3) := kq.at kqdX11_twinOf_0 12 rfl
theorem dX11_twinOf_23 : decode cX11_twinOf 23 = .ok (.goto (-21), 3) := kq.at kqdX11_twinOf_0 13 rfl
theorem dX11_twinOf_26 : decode cX11_twinOf 26 = .ok (.iconst 0, 1) := kq.at kqdX11_twinOf_0 14 rfl
theorem dX11_twinOf_27 : decode cX11_twinOf 27 = .ok (.istore_n 1, 1) := kq.at kqdX11_twinOf_0 15 rfl
theorem dX11_twinOf_28 : decode cX11_twinOf 28 = .ok (.iconst 0, 1) := kq.at kqdX11_twinOf_0 16 rfl
theorem dX11_twinOf_29 : decode cX11_twinOf 29 = .ok (.istore_n 2, 1) := kq.at kqdX11_twinOf_0 17 rfl
theorem dX11_twinOf_30 : decode cX11_twinOf 30 = .ok (.iload_n 2, 1) := kq.at kqdX11_twinOf_0 18 rfl
theorem dX11_twinOf_31 : decode cX11_twinOf 31 = .ok (.aload_n 0, 1) := kq.at kqdX11_twinOf_0 19 rfl
theorem dX11_twinOf_32 : decode cX11_twinOf 32 = .ok (.getfield 7, 3) := kq.at kqdX11_twinOf_0 20 rfl
theorem dX11_twinOf_35 : decode cX11_twinOf 35 = .ok (.iconst 0, 1) := kq.at kqdX11_twinOf_0 21 rfl
theorem dX11_twinOf_36 : decode cX11_twinOf 36 = .ok (.iaload, 1) := kq.at kqdX11_twinOf_0 22 rfl
theorem dX11_twinOf_37 : decode cX11_twinOf 37 = .ok (.if_icmp .ge 69, 3) := kq.at kqdX11_twinOf_0 23 rfl
theorem kqdX11_twinOf_40 : kq cX11_twinOf [(40, .iconst 0, 1), (41, .istore_n 3, 1), (42, .iload_n 3, 1), (43, .aload_n 0, 1), (44, .getfield 7, 3), (47, .iconst 0, 1), (48, .iaload, 1), (49, .if_icmp .ge 51, 3), (52, .aload_n 0, 1), (53, .iload_n 2, 1), (54, .iload_n 3, 1), (55, .invokevirtual 395, 3), (58, .ifCond .eq 36, 3), (61, .aload_n 0, 1), (62, .iload_n 2, 1), (63, .iload_n 3, 1), (64, .invokevirtual 398, 3), (67, .ifCond .eq 27, 3), (70, .aload_n 0, 1), (71, .aload_n 0, 1), (72, .iload_n 3, 1), (73, .aload_n 0, 1), (74, .iload_n 2, 1), (75, .invokevirtual 300, 3)] = true := by decide +kernel
theorem dX11_twinOf_40 : decode cX11_twinOf 40 = .ok (.iconst 0, 1) := kq.at kqdX11_twinOf_40 0 rfl
theorem dX11_twinOf_41 : decode cX11_twinOf 41 = .ok (.istore_n 3, 1) := kq.at kqdX11_twinOf_40 1 rfl
theorem dX11_twinOf_42 : decode cX11_twinOf 42 = .ok (.iload_n 3, 1) := kq.at kqdX11_twinOf_40 2 rfl
theorem dX11_twinOf_43 : decode cX11_twinOf 43 = .ok (.aload_n 0, 1) := kq.at kqdX11_twinOf_40 3 rfl
theorem dX11_twinOf_44 : decode cX11_twinOf 44 = .ok (.getfield 7, 3) := kq.at kqdX11_twinOf_40 4 rfl
theorem dX11_twinOf_47 : decode cX11_twinOf 47 = .ok (.iconst 0, 1) := kq.at kqdX11_twinOf_40 5 rfl
theorem dX11_twinOf_48 : decode cX11_twinOf 48 = .ok (.iaload, 1) := kq.at kqdX11_twinOf_40 6 rfl
theorem dX11_twinOf_49 : decode cX11_twinOf 49 = .ok (.if_icmp .ge 51, 3) := kq.at kqdX11_twinOf_40 7 rfl
theorem dX11_twinOf_52 : decode cX11_twinOf 52 = .ok (.aload_n 0, 1) := kq.at kqdX11_twinOf_40 8 rfl
theorem dX11_twinOf_53 : decode cX11_twinOf 53 = .ok (.iload_n 2, 1) := kq.at kqdX11_twinOf_40 9 rfl
theorem dX11_twinOf_54 : decode cX11_twinOf 54 = .ok (.iload_n 3, 1) := kq.at kqdX11_twinOf_40 10 rfl
theorem dX11_twinOf_55 : decode cX11_twinOf 55 = .ok (.invokevirtual 395, 3) := kq.at kqdX11_twinOf_40 11 rfl
theorem dX11_twinOf_58 : decode cX11_twinOf 58 = .ok (.ifCond .eq 36, 3) := kq.at kqdX11_twinOf_40 12 rfl
theorem dX11_twinOf_61 : decode cX11_twinOf 61 = .ok (.aload_n 0, 1) := kq.at kqdX11_twinOf_40 13 rfl
theorem dX11_twinOf_62 : decode cX11_twinOf 62 = .ok (.iload_n 2, 1) := kq.at kqdX11_twinOf_40 14 rfl
theorem dX11_twinOf_63 : decode cX11_twinOf 63 = .ok (.iload_n 3, 1) := kq.at kqdX11_twinOf_40 15 rfl
theorem dX11_twinOf_64 : decode cX11_twinOf 64 = .ok (.invokevirtual 398, 3) := kq.at kqdX11_twinOf_40 16 rfl
theorem dX11_twinOf_67 : decode cX11_twinOf 67 = .ok (.ifCond .eq 27, 3) := kq.at kqdX11_twinOf_40 17 rfl
theorem dX11_twinOf_70 : decode cX11_twinOf 70 = .ok (.aload_n 0, 1) := kq.at kqdX11_twinOf_40 18 rfl
theorem dX11_twinOf_71 : decode cX11_twinOf 71 = .ok (.aload_n 0, 1) := kq.at kqdX11_twinOf_40 19 rfl
theorem dX11_twinOf_72 : decode cX11_twinOf 72 = .ok (.iload_n 3, 1) := kq.at kqdX11_twinOf_40 20 rfl
theorem dX11_twinOf_73 : decode cX11_twinOf 73 = .ok (.aload_n 0, 1) := kq.at kqdX11_twinOf_40 21 rfl
theorem dX11_twinOf_74 : decode cX11_twinOf 74 = .ok (.iload_n 2, 1) := kq.at kqdX11_twinOf_40 22 rfl
theorem dX11_twinOf_75 : decode cX11_twinOf 75 = .ok (.invokevirtual 300, 3) := kq.at kqdX11_twinOf_40 23 rfl
theorem kqdX11_twinOf_78 : kq cX11_twinOf [(78, .invokevirtual 407, 3), (81, .aload_n 0, 1), (82, .iload_n 3, 1), (83, .invokevirtual 300, 3), (86, .invokevirtual 410, 3), (89, .ifCond .eq 5, 3), (92, .iconst 1, 1), (93, .istore_n 1, 1), (94, .iinc 3 1, 3), (97, .goto (-55), 3), (100, .iinc 2 1, 3), (103, .goto (-73), 3), (106, .iload_n 1, 1), (107, .ifCond .eq 83, 3), (110, .iconst 0, 1), (111, .istore_n 1, 1), (112, .iconst 1, 1), (113, .istore_n 2, 1), (114, .iload_n 2, 1), (115, .aload_n 0, 1), (116, .getfield 83, 3), (119, .arraylength, 1), (120, .if_icmp .ge 67, 3), (123, .aload_n 0, 1)] = true := by decide +kernel
theorem dX11_twinOf_78 : decode cX11_twinOf 78 = .ok (.invokevirtual 407, 3) := kq.at kqdX11_twinOf_78 0 rfl
theorem dX11_twinOf_81 : decode cX11_twinOf 81 = .ok (.aload_n 0, 1) := kq.at kqdX11_twinOf_78 1 rfl
theorem dX11_twinOf_82 : decode cX11_twinOf 82 = .ok (.iload_n 3, 1) := kq.at kqdX11_twinOf_78 2 rfl
theorem dX11_twinOf_83 : decode cX11_twinOf 83 = .ok (.invokevirtual 300, 3) := kq.at kqdX11_twinOf_78 3 rfl
theorem dX11_twinOf_86 : decode cX11_twinOf 86 = .ok (.invokevirtual 410, 3) := kq.at kqdX11_twinOf_78 4 rfl
theorem dX11_twinOf_89 : decode cX11_twinOf 89 = .ok (.ifCond .eq 5, 3) := kq.at kqdX11_twinOf_78 5 rfl
theorem dX11_twinOf_92 : decode cX11_twinOf 92 = .ok (.iconst 1, 1) := kq.at kqdX11_twinOf_78 6 rfl
theorem dX11_twinOf_93 : decode cX11_twinOf 93 = .ok (.istore_n 1, 1) := kq.at kqdX11_twinOf_78 7 rfl
theorem dX11_twinOf_94 : decode cX11_twinOf 94 = .ok (.iinc 3 1, 3) := kq.at kqdX11_twinOf_78 8 rfl
theorem dX11_twinOf_97 : decode cX11_twinOf 97 = .ok (.goto (-55), 3) := kq.at kqdX11_twinOf_78 9 rfl
theorem dX11_twinOf_100 : decode cX11_twinOf 100 = .ok (.iinc 2 1, 3) := kq.at kqdX11_twinOf_78 10 rfl
theorem dX11_twinOf_103 : decode cX11_twinOf 103 = .ok (.goto (-73), 3) := kq.at kqdX11_twinOf_78 11 rfl
theorem dX11_twinOf_106 : decode cX11_twinOf 106 = .ok (.iload_n 1, 1) := kq.at kqdX11_twinOf_78 12 rfl
theorem dX11_twinOf_107 : decode cX11_twinOf 107 = .ok (.ifCond .eq 83, 3) := kq.at kqdX11_twinOf_78 13 rfl
theorem dX11_twinOf_110 : decode cX11_twinOf 110 = .ok (.iconst 0, 1) := kq.at kqdX11_twinOf_78 14 rfl
theorem dX11_twinOf_111 : decode cX11_twinOf 111 = .ok (.istore_n 1, 1) := kq.at kqdX11_twinOf_78 15 rfl
theorem dX11_twinOf_112 : decode cX11_twinOf 112 = .ok (.iconst 1, 1) := kq.at kqdX11_twinOf_78 16 rfl
theorem dX11_twinOf_113 : decode cX11_twinOf 113 = .ok (.istore_n 2, 1) := kq.at kqdX11_twinOf_78 17 rfl
theorem dX11_twinOf_114 : decode cX11_twinOf 114 = .ok (.iload_n 2, 1) := kq.at kqdX11_twinOf_78 18 rfl
theorem dX11_twinOf_115 : decode cX11_twinOf 115 = .ok (.aload_n 0, 1) := kq.at kqdX11_twinOf_78 19 rfl
theorem dX11_twinOf_116 : decode cX11_twinOf 116 = .ok (.getfield 83, 3) := kq.at kqdX11_twinOf_78 20 rfl
theorem dX11_twinOf_119 : decode cX11_twinOf 119 = .ok (.arraylength, 1) := kq.at kqdX11_twinOf_78 21 rfl
theorem dX11_twinOf_120 : decode cX11_twinOf 120 = .ok (.if_icmp .ge 67, 3) := kq.at kqdX11_twinOf_78 22 rfl
theorem dX11_twinOf_123 : decode cX11_twinOf 123 = .ok (.aload_n 0, 1) := kq.at kqdX11_twinOf_78 23 rfl
theorem kqdX11_twinOf_124 : kq cX11_twinOf [(124, .getfield 83, 3), (127, .iload_n 2, 1), (128, .iaload, 1), (129, .ldc_w 362, 3), (132, .if_icmp .ne 6, 3), (135, .goto 46, 3), (138, .iconst 0, 1), (139, .istore_n 3, 1), (140, .iload_n 3, 1), (141, .aload_n 0, 1), (142, .getfield 7, 3), (145, .iconst 0, 1), (146, .iaload, 1), (147, .if_icmp .ge 34, 3), (150, .aload_n 0, 1), (151, .getfield 7, 3), (154, .bipush 6, 2), (156, .iaload, 1), (157, .iload_n 3, 1), (158, .invokestatic 249, 3), (161, .ifCond .ne 14, 3), (164, .aload_n 0, 1), (165, .iload_n 2, 1), (166, .iload_n 3, 1)] = true := by decide +kernel
theorem dX11_twinOf_124 : decode cX11_twinOf 124 = .ok (.getfield 83, 3) := kq.at kqdX11_twinOf_124 0 rfl
theorem dX11_twinOf_127 : decode cX11_twinOf 127 = .ok (.iload_n 2, 1) := kq.at kqdX11_twinOf_124 1 rfl
theorem dX11_twinOf_128 : decode cX11_twinOf 128 = .ok (.iaload, 1) := kq.at kqdX11_twinOf_124 2 rfl
theorem dX11_twinOf_129 : decode cX11_twinOf 129 = .ok (.ldc_w 362, 3) := kq.at kqdX11_twinOf_124 3 rfl
theorem dX11_twinOf_132 : decode cX11_twinOf 132 = .ok (.if_icmp .ne 6, 3) := kq.at kqdX11_twinOf_124 4 rfl
theorem dX11_twinOf_135 : decode cX11_twinOf 135 = .ok (.goto 46, 3) := kq.at kqdX11_twinOf_124 5 rfl
theorem dX11_twinOf_138 : decode cX11_twinOf 138 = .ok (.iconst 0, 1) := kq.at kqdX11_twinOf_124 6 rfl
theorem dX11_twinOf_139 : decode cX11_twinOf 139 = .ok (.istore_n 3, 1) := kq.at kqdX11_twinOf_124 7 rfl
theorem dX11_twinOf_140 : decode cX11_twinOf 140 = .ok (.iload_n 3, 1) := kq.at kqdX11_twinOf_124 8 rfl
theorem dX11_twinOf_141 : decode cX11_twinOf 141 = .ok (.aload_n 0, 1) := kq.at kqdX11_twinOf_124 9 rfl
theorem dX11_twinOf_142 : decode cX11_twinOf 142 = .ok (.getfield 7, 3) := kq.at kqdX11_twinOf_124 10 rfl
theorem dX11_twinOf_145 : decode cX11_twinOf 145 = .ok (.iconst 0, 1) := kq.at kqdX11_twinOf_124 11 rfl
theorem dX11_twinOf_146 : decode cX11_twinOf 146 = .ok (.iaload, 1) := kq.at kqdX11_twinOf_124 12 rfl
theorem dX11_twinOf_147 : decode cX11_twinOf 147 = .ok (.if_icmp .ge 34, 3) := kq.at kqdX11_twinOf_124 13 rfl
theorem dX11_twinOf_150 : decode cX11_twinOf 150 = .ok (.aload_n 0, 1) := kq.at kqdX11_twinOf_124 14 rfl
theorem dX11_twinOf_151 : decode cX11_twinOf 151 = .ok (.getfield 7, 3) := kq.at kqdX11_twinOf_124 15 rfl
theorem dX11_twinOf_154 : decode cX11_twinOf 154 = .ok (.bipush 6, 2) := kq.at kqdX11_twinOf_124 16 rfl
theorem dX11_twinOf_156 : decode cX11_twinOf 156 = .ok (.iaload, 1) := kq.at kqdX11_twinOf_124 17 rfl
theorem dX11_twinOf_157 : decode cX11_twinOf 157 = .ok (.iload_n 3, 1) := kq.at kqdX11_twinOf_124 18 rfl
theorem dX11_twinOf_158 : decode cX11_twinOf 158 = .ok (.invokestatic 249, 3) := kq.at kqdX11_twinOf_124 19 rfl
theorem dX11_twinOf_161 : decode cX11_twinOf 161 = .ok (.ifCond .ne 14, 3) := kq.at kqdX11_twinOf_124 20 rfl
theorem dX11_twinOf_164 : decode cX11_twinOf 164 = .ok (.aload_n 0, 1) := kq.at kqdX11_twinOf_124 21 rfl
theorem dX11_twinOf_165 : decode cX11_twinOf 165 = .ok (.iload_n 2, 1) := kq.at kqdX11_twinOf_124 22 rfl
theorem dX11_twinOf_166 : decode cX11_twinOf 166 = .ok (.iload_n 3, 1) := kq.at kqdX11_twinOf_124 23 rfl
theorem kqdX11_twinOf_167 : kq cX11_twinOf [(167, .invokevirtual 413, 3), (170, .ifCond .eq 5, 3), (173, .iconst 1, 1), (174, .istore_n 1, 1), (175, .iinc 3 1, 3), (178, .goto (-38), 3), (181, .iinc 2 1, 3), (184, .goto (-70), 3), (187, .goto (-81), 3), (190, .aload_n 0, 1), (191, .getfield 83, 3), (194, .iconst 0, 1), (195, .iaload, 1), (196, .ireturn, 1)] = true := by decide +kernel
theorem dX11_twinOf_167 : decode cX11_twinOf 167 = .ok (.invokevirtual 413, 3) := kq.at kqdX11_twinOf_167 0 rfl
theorem dX11_twinOf_170 : decode cX11_twinOf 170 = .ok (.ifCond .eq 5, 3) := kq.at kqdX11_twinOf_167 1 rfl
theorem dX11_twinOf_173 : decode cX11_twinOf 173 = .ok (.iconst 1, 1) := kq.at kqdX11_twinOf_167 2 rfl
theorem dX11_twinOf_174 : decode cX11_twinOf 174 = .ok (.istore_n 1, 1) := kq.at kqdX11_twinOf_167 3 rfl
theorem dX11_twinOf_175 : decode cX11_twinOf 175 = .ok (.iinc 3 1, 3) := kq.at kqdX11_twinOf_167 4 rfl
theorem dX11_twinOf_178 : decode cX11_twinOf 178 = .ok (.goto (-38), 3) := kq.at kqdX11_twinOf_167 5 rfl
theorem dX11_twinOf_181 : decode cX11_twinOf 181 = .ok (.iinc 2 1, 3) := kq.at kqdX11_twinOf_167 6 rfl
theorem dX11_twinOf_184 : decode cX11_twinOf 184 = .ok (.goto (-70), 3) := kq.at kqdX11_twinOf_167 7 rfl
theorem dX11_twinOf_187 : decode cX11_twinOf 187 = .ok (.goto (-81), 3) := kq.at kqdX11_twinOf_167 8 rfl
theorem dX11_twinOf_190 : decode cX11_twinOf 190 = .ok (.aload_n 0, 1) := kq.at kqdX11_twinOf_167 9 rfl
theorem dX11_twinOf_191 : decode cX11_twinOf 191 = .ok (.getfield 83, 3) := kq.at kqdX11_twinOf_167 10 rfl
theorem dX11_twinOf_194 : decode cX11_twinOf 194 = .ok (.iconst 0, 1) := kq.at kqdX11_twinOf_167 11 rfl
theorem dX11_twinOf_195 : decode cX11_twinOf 195 = .ok (.iaload, 1) := kq.at kqdX11_twinOf_167 12 rfl
theorem dX11_twinOf_196 : decode cX11_twinOf 196 = .ok (.ireturn, 1) := kq.at kqdX11_twinOf_167 13 rfl
theorem kqdX11_clear_0 : kq cX11_clear [(0, .aload_n 0, 1), (1, .aload_n 0, 1), (2, .invokevirtual 416, 3), (5, .ldc_w 362, 3), (8, .if_icmp .ne 7, 3), (11, .iconst 1, 1), (12, .goto 4, 3), (15, .iconst 0, 1), (16, .invokevirtual 191, 3), (19, .ireturn, 1)] = true := by decide +kernel
theorem dX11_clear_0 : decode cX11_clear 0 = .ok (.aload_n 0, 1) := kq.at kqdX11_clear_0 0 rfl
theorem dX11_clear_1 : decode cX11_clear 1 = .ok (.aload_n 0, 1) := kq.at kqdX11_clear_0 1 rfl
theorem dX11_clear_2 : decode cX11_clear 2 = .ok (.invokevirtual 416, 3) := kq.at kqdX11_clear_0 2 rfl
theorem dX11_clear_5 : decode cX11_clear 5 = .ok (.ldc_w 362, 3) := kq.at kqdX11_clear_0 3 rfl
theorem dX11_clear_8 : decode cX11_clear 8 = .ok (.if_icmp .ne 7, 3) := kq.at kqdX11_clear_0 4 rfl
theorem dX11_clear_11 : decode cX11_clear 11 = .ok (.iconst 1, 1) := kq.at kqdX11_clear_0 5 rfl
theorem dX11_clear_12 : decode cX11_clear 12 = .ok (.goto 4, 3) := kq.at kqdX11_clear_0 6 rfl
theorem dX11_clear_15 : decode cX11_clear 15 = .ok (.iconst 0, 1) := kq.at kqdX11_clear_0 7 rfl
theorem dX11_clear_16 : decode cX11_clear 16 = .ok (.invokevirtual 191, 3) := kq.at kqdX11_clear_0 8 rfl
theorem dX11_clear_19 : decode cX11_clear 19 = .ok (.ireturn, 1) := kq.at kqdX11_clear_0 9 rfl
theorem kqdX11_twin_0 : kq cX11_twin [(0, .aload_n 0, 1), (1, .invokevirtual 416, 3), (4, .istore_n 1, 1), (5, .iload_n 1, 1), (6, .ldc_w 362, 3), (9, .if_icmp .ne 12, 3), (12, .aload_n 0, 1), (13, .bipush 6, 2), (15, .invokevirtual 188, 3), (18, .goto 8, 3), (21, .aload_n 0, 1), (22, .iload_n 1, 1), (23, .invokevirtual 191, 3), (26, .ireturn, 1)] = true := by decide +kernel
theorem dX11_twin_0 : decode cX11_twin 0 = .ok (.aload_n 0, 1) := kq.at kqdX11_twin_0 0 rfl
theorem dX11_twin_1 : decode cX11_twin 1 = .ok (.invokevirtual 416, 3) := kq.at kqdX11_twin_0 1 rfl
theorem dX11_twin_4 : decode cX11_twin 4 = .ok (.istore_n 1, 1) := kq.at kqdX11_twin_0 2 rfl
theorem dX11_twin_5 : decode cX11_twin 5 = .ok (.iload_n 1, 1) := kq.at kqdX11_twin_0 3 rfl
theorem dX11_twin_6 : decode cX11_twin 6 = .ok (.ldc_w 362, 3) := kq.at kqdX11_twin_0 4 rfl
theorem dX11_twin_9 : decode cX11_twin 9 = .ok (.if_icmp .ne 12, 3) := kq.at kqdX11_twin_0 5 rfl
theorem dX11_twin_12 : decode cX11_twin 12 = .ok (.aload_n 0, 1) := kq.at kqdX11_twin_0 6 rfl
theorem dX11_twin_13 : decode cX11_twin 13 = .ok (.bipush 6, 2) := kq.at kqdX11_twin_0 7 rfl
theorem dX11_twin_15 : decode cX11_twin 15 = .ok (.invokevirtual 188, 3) := kq.at kqdX11_twin_0 8 rfl
theorem dX11_twin_18 : decode cX11_twin 18 = .ok (.goto 8, 3) := kq.at kqdX11_twin_0 9 rfl
theorem dX11_twin_21 : decode cX11_twin 21 = .ok (.aload_n 0, 1) := kq.at kqdX11_twin_0 10 rfl
theorem dX11_twin_22 : decode cX11_twin 22 = .ok (.iload_n 1, 1) := kq.at kqdX11_twin_0 11 rfl
theorem dX11_twin_23 : decode cX11_twin 23 = .ok (.invokevirtual 191, 3) := kq.at kqdX11_twin_0 12 rfl
theorem dX11_twin_26 : decode cX11_twin 26 = .ok (.ireturn, 1) := kq.at kqdX11_twin_0 13 rfl
theorem kqdX11_lacks_0 : kq cX11_lacks [(0, .iconst 0, 1), (1, .istore_n 1, 1), (2, .iconst 1, 1), (3, .istore_n 2, 1), (4, .iload_n 2, 1), (5, .bipush 26, 2), (7, .if_icmp .gt 37, 3), (10, .iload_n 1, 1), (11, .aload_n 0, 1), (12, .iload_n 2, 1), (13, .aload_n 0, 1), (14, .getfield 7, 3), (17, .bipush 6, 2), (19, .iaload, 1), (20, .invokevirtual 288, 3), (23, .iconst (-1), 1), (24, .if_icmp .ne 11, 3), (27, .iconst 1, 1), (28, .iload_n 2, 1), (29, .iconst 1, 1), (30, .isub, 1), (31, .ishl, 1), (32, .goto 4, 3), (35, .iconst 0, 1)] = true := by decide +kernel
theorem dX11_lacks_0 : decode cX11_lacks 0 = .ok (.iconst 0, 1) := kq.at kqdX11_lacks_0 0 rfl
theorem dX11_lacks_1 : decode cX11_lacks 1 = .ok (.istore_n 1, 1) := kq.at kqdX11_lacks_0 1 rfl
theorem dX11_lacks_2 : decode cX11_lacks 2 = .ok (.iconst 1, 1) := kq.at kqdX11_lacks_0 2 rfl
theorem dX11_lacks_3 : decode cX11_lacks 3 = .ok (.istore_n 2, 1) := kq.at kqdX11_lacks_0 3 rfl
theorem dX11_lacks_4 : decode cX11_lacks 4 = .ok (.iload_n 2, 1) := kq.at kqdX11_lacks_0 4 rfl
theorem dX11_lacks_5 : decode cX11_lacks 5 = .ok (.bipush 26, 2) := kq.at kqdX11_lacks_0 5 rfl
theorem dX11_lacks_7 : decode cX11_lacks 7 = .ok (.if_icmp .gt 37, 3) := kq.at kqdX11_lacks_0 6 rfl
theorem dX11_lacks_10 : decode cX11_lacks 10 = .ok (.iload_n 1, 1) := kq.at kqdX11_lacks_0 7 rfl
theorem dX11_lacks_11 : decode cX11_lacks 11 = .ok (.aload_n 0, 1) := kq.at kqdX11_lacks_0 8 rfl
theorem dX11_lacks_12 : decode cX11_lacks 12 = .ok (.iload_n 2, 1) := kq.at kqdX11_lacks_0 9 rfl
theorem dX11_lacks_13 : decode cX11_lacks 13 = .ok (.aload_n 0, 1) := kq.at kqdX11_lacks_0 10 rfl
theorem dX11_lacks_14 : decode cX11_lacks 14 = .ok (.getfield 7, 3) := kq.at kqdX11_lacks_0 11 rfl
theorem dX11_lacks_17 : decode cX11_lacks 17 = .ok (.bipush 6, 2) := kq.at kqdX11_lacks_0 12 rfl
theorem dX11_lacks_19 : decode cX11_lacks 19 = .ok (.iaload, 1) := kq.at kqdX11_lacks_0 13 rfl
theorem dX11_lacks_20 : decode cX11_lacks 20 = .ok (.invokevirtual 288, 3) := kq.at kqdX11_lacks_0 14 rfl
theorem dX11_lacks_23 : decode cX11_lacks 23 = .ok (.iconst (-1), 1) := kq.at kqdX11_lacks_0 15 rfl
theorem dX11_lacks_24 : decode cX11_lacks 24 = .ok (.if_icmp .ne 11, 3) := kq.at kqdX11_lacks_0 16 rfl
theorem dX11_lacks_27 : decode cX11_lacks 27 = .ok (.iconst 1, 1) := kq.at kqdX11_lacks_0 17 rfl
theorem dX11_lacks_28 : decode cX11_lacks 28 = .ok (.iload_n 2, 1) := kq.at kqdX11_lacks_0 18 rfl
theorem dX11_lacks_29 : decode cX11_lacks 29 = .ok (.iconst 1, 1) := kq.at kqdX11_lacks_0 19 rfl
theorem dX11_lacks_30 : decode cX11_lacks 30 = .ok (.isub, 1) := kq.at kqdX11_lacks_0 20 rfl
theorem dX11_lacks_31 : decode cX11_lacks 31 = .ok (.ishl, 1) := kq.at kqdX11_lacks_0 21 rfl
theorem dX11_lacks_32 : decode cX11_lacks 32 = .ok (.goto 4, 3) := kq.at kqdX11_lacks_0 22 rfl
theorem dX11_lacks_35 : decode cX11_lacks 35 = .ok (.iconst 0, 1) := kq.at kqdX11_lacks_0 23 rfl
theorem kqdX11_lacks_36 : kq cX11_lacks [(36, .ior, 1), (37, .istore_n 1, 1), (38, .iinc 2 1, 3), (41, .goto (-37), 3), (44, .aload_n 0, 1), (45, .iload_n 1, 1), (46, .invokevirtual 191, 3), (49, .ireturn, 1)] = true := by decide +kernel
theorem dX11_lacks_36 : decode cX11_lacks 36 = .ok (.ior, 1) := kq.at kqdX11_lacks_36 0 rfl
theorem dX11_lacks_37 : decode cX11_lacks 37 = .ok (.istore_n 1, 1) := kq.at kqdX11_lacks_36 1 rfl
theorem dX11_lacks_38 : decode cX11_lacks 38 = .ok (.iinc 2 1, 3) := kq.at kqdX11_lacks_36 2 rfl
theorem dX11_lacks_41 : decode cX11_lacks 41 = .ok (.goto (-37), 3) := kq.at kqdX11_lacks_36 3 rfl
theorem dX11_lacks_44 : decode cX11_lacks 44 = .ok (.aload_n 0, 1) := kq.at kqdX11_lacks_36 4 rfl
theorem dX11_lacks_45 : decode cX11_lacks 45 = .ok (.iload_n 1, 1) := kq.at kqdX11_lacks_36 5 rfl
theorem dX11_lacks_46 : decode cX11_lacks 46 = .ok (.invokevirtual 191, 3) := kq.at kqdX11_lacks_36 6 rfl
theorem dX11_lacks_49 : decode cX11_lacks 49 = .ok (.ireturn, 1) := kq.at kqdX11_lacks_36 7 rfl
theorem kqdX11_draw_0 : kq cX11_draw [(0, .aload_n 0, 1), (1, .aload_n 0, 1), (2, .getfield 419, 3), (5, .sipush 2801, 3), (8, .imul, 1), (9, .sipush 10163, 3), (12, .iadd, 1), (13, .ldc_w 422, 3), (16, .irem, 1), (17, .putfield 419, 3), (20, .aload_n 0, 1), (21, .getfield 419, 3), (24, .bipush 8, 2), (26, .idiv, 1), (27, .bipush 16, 2), (29, .irem, 1), (30, .ireturn, 1)] = true := by decide +kernel
theorem dX11_draw_0 : decode cX11_draw 0 = .ok (.aload_n 0, 1) := kq.at kqdX11_draw_0 0 rfl
theorem dX11_draw_1 : decode cX11_draw 1 = .ok (.aload_n 0, 1) := kq.at kqdX11_draw_0 1 rfl
theorem dX11_draw_2 : decode cX11_draw 2 = .ok (.getfield 419, 3) := kq.at kqdX11_draw_0 2 rfl
theorem dX11_draw_5 : decode cX11_draw 5 = .ok (.sipush 2801, 3) := kq.at kqdX11_draw_0 3 rfl
theorem dX11_draw_8 : decode cX11_draw 8 = .ok (.imul, 1) := kq.at kqdX11_draw_0 4 rfl
theorem dX11_draw_9 : decode cX11_draw 9 = .ok (.sipush 10163, 3) := kq.at kqdX11_draw_0 5 rfl
theorem dX11_draw_12 : decode cX11_draw 12 = .ok (.iadd, 1) := kq.at kqdX11_draw_0 6 rfl
theorem dX11_draw_13 : decode cX11_draw 13 = .ok (.ldc_w 422, 3) := kq.at kqdX11_draw_0 7 rfl
theorem dX11_draw_16 : decode cX11_draw 16 = .ok (.irem, 1) := kq.at kqdX11_draw_0 8 rfl
theorem dX11_draw_17 : decode cX11_draw 17 = .ok (.putfield 419, 3) := kq.at kqdX11_draw_0 9 rfl
theorem dX11_draw_20 : decode cX11_draw 20 = .ok (.aload_n 0, 1) := kq.at kqdX11_draw_0 10 rfl
theorem dX11_draw_21 : decode cX11_draw 21 = .ok (.getfield 419, 3) := kq.at kqdX11_draw_0 11 rfl
theorem dX11_draw_24 : decode cX11_draw 24 = .ok (.bipush 8, 2) := kq.at kqdX11_draw_0 12 rfl
theorem dX11_draw_26 : decode cX11_draw 26 = .ok (.idiv, 1) := kq.at kqdX11_draw_0 13 rfl
theorem dX11_draw_27 : decode cX11_draw 27 = .ok (.bipush 16, 2) := kq.at kqdX11_draw_0 14 rfl
theorem dX11_draw_29 : decode cX11_draw 29 = .ok (.irem, 1) := kq.at kqdX11_draw_0 15 rfl
theorem dX11_draw_30 : decode cX11_draw 30 = .ok (.ireturn, 1) := kq.at kqdX11_draw_0 16 rfl
theorem kqdX11_wears_0 : kq cX11_wears [(0, .aload_n 0, 1), (1, .iload_n 1, 1), (2, .putfield 419, 3), (5, .iconst 0, 1), (6, .istore_n 3, 1), (7, .iconst 0, 1), (8, .istore 4, 2), (10, .iload 4, 2), (12, .aload_n 0, 1), (13, .getfield 7, 3), (16, .bipush 8, 2), (18, .iaload, 1), (19, .if_icmp .ge 92, 3), (22, .aload_n 0, 1), (23, .getfield 89, 3), (26, .iload 4, 2), (28, .aload_n 0, 1), (29, .getfield 7, 3), (32, .sipush 600, 3), (35, .iload 4, 2), (37, .iadd, 1), (38, .iaload, 1), (39, .iastore, 1), (40, .iconst 0, 1)] = true := by decide +kernel
theorem dX11_wears_0 : decode cX11_wears 0 = .ok (.aload_n 0, 1) := kq.at kqdX11_wears_0 0 rfl
theorem dX11_wears_1 : decode cX11_wears 1 = .ok (.iload_n 1, 1) := kq.at kqdX11_wears_0 1 rfl
theorem dX11_wears_2 : decode cX11_wears 2 = .ok (.putfield 419, 3) := kq.at kqdX11_wears_0 2 rfl
theorem dX11_wears_5 : decode cX11_wears 5 = .ok (.iconst 0, 1) := kq.at kqdX11_wears_0 3 rfl
theorem dX11_wears_6 : decode cX11_wears 6 = .ok (.istore_n 3, 1) := kq.at kqdX11_wears_0 4 rfl
theorem dX11_wears_7 : decode cX11_wears 7 = .ok (.iconst 0, 1) := kq.at kqdX11_wears_0 5 rfl
theorem dX11_wears_8 : decode cX11_wears 8 = .ok (.istore 4, 2) := kq.at kqdX11_wears_0 6 rfl
theorem dX11_wears_10 : decode cX11_wears 10 = .ok (.iload 4, 2) := kq.at kqdX11_wears_0 7 rfl
theorem dX11_wears_12 : decode cX11_wears 12 = .ok (.aload_n 0, 1) := kq.at kqdX11_wears_0 8 rfl
theorem dX11_wears_13 : decode cX11_wears 13 = .ok (.getfield 7, 3) := kq.at kqdX11_wears_0 9 rfl
theorem dX11_wears_16 : decode cX11_wears 16 = .ok (.bipush 8, 2) := kq.at kqdX11_wears_0 10 rfl
theorem dX11_wears_18 : decode cX11_wears 18 = .ok (.iaload, 1) := kq.at kqdX11_wears_0 11 rfl
theorem dX11_wears_19 : decode cX11_wears 19 = .ok (.if_icmp .ge 92, 3) := kq.at kqdX11_wears_0 12 rfl
theorem dX11_wears_22 : decode cX11_wears 22 = .ok (.aload_n 0, 1) := kq.at kqdX11_wears_0 13 rfl
theorem dX11_wears_23 : decode cX11_wears 23 = .ok (.getfield 89, 3) := kq.at kqdX11_wears_0 14 rfl
theorem dX11_wears_26 : decode cX11_wears 26 = .ok (.iload 4, 2) := kq.at kqdX11_wears_0 15 rfl
theorem dX11_wears_28 : decode cX11_wears 28 = .ok (.aload_n 0, 1) := kq.at kqdX11_wears_0 16 rfl
theorem dX11_wears_29 : decode cX11_wears 29 = .ok (.getfield 7, 3) := kq.at kqdX11_wears_0 17 rfl
theorem dX11_wears_32 : decode cX11_wears 32 = .ok (.sipush 600, 3) := kq.at kqdX11_wears_0 18 rfl
theorem dX11_wears_35 : decode cX11_wears 35 = .ok (.iload 4, 2) := kq.at kqdX11_wears_0 19 rfl
theorem dX11_wears_37 : decode cX11_wears 37 = .ok (.iadd, 1) := kq.at kqdX11_wears_0 20 rfl
theorem dX11_wears_38 : decode cX11_wears 38 = .ok (.iaload, 1) := kq.at kqdX11_wears_0 21 rfl
theorem dX11_wears_39 : decode cX11_wears 39 = .ok (.iastore, 1) := kq.at kqdX11_wears_0 22 rfl
theorem dX11_wears_40 : decode cX11_wears 40 = .ok (.iconst 0, 1) := kq.at kqdX11_wears_0 23 rfl
theorem kqdX11_wears_41 : kq cX11_wears [(41, .istore 5, 2), (43, .iload 5, 2), (45, .bipush 6, 2), (47, .if_icmp .ge 58, 3), (50, .aload_n 0, 1), (51, .getfield 7, 3), (54, .sipush 600, 3), (57, .iload 4, 2), (59, .iadd, 1), (60, .iaload, 1), (61, .iload 5, 2), (63, .ishr, 1), (64, .iconst 1, 1), (65, .iand, 1), (66, .ifCond .eq 33, 3), (69, .aload_n 0, 1), (70, .invokevirtual 423, 3), (73, .iload_n 2, 1), (74, .if_icmp .lt 6, 3), (77, .goto 22, 3), (80, .aload_n 0, 1), (81, .getfield 89, 3), (84, .iload 4, 2), (86, .dup2, 1)] = true := by decide +kernel
theorem dX11_wears_41 : decode cX11_wears 41 = .ok (.istore 5, 2) := kq.at kqdX11_wears_41 0 rfl
theorem dX11_wears_43 : decode cX11_wears 43 = .ok (.iload 5, 2) := kq.at kqdX11_wears_41 1 rfl
theorem dX11_wears_45 : decode cX11_wears 45 = .ok (.bipush 6, 2) := kq.at kqdX11_wears_41 2 rfl
theorem dX11_wears_47 : decode cX11_wears 47 = .ok (.if_icmp .ge 58, 3) := kq.at kqdX11_wears_41 3 rfl
theorem dX11_wears_50 : decode cX11_wears 50 = .ok (.aload_n 0, 1) := kq.at kqdX11_wears_41 4 rfl
theorem dX11_wears_51 : decode cX11_wears 51 = .ok (.getfield 7, 3) := kq.at kqdX11_wears_41 5 rfl
theorem dX11_wears_54 : decode cX11_wears 54 = .ok (.sipush 600, 3) := kq.at kqdX11_wears_41 6 rfl
theorem dX11_wears_57 : decode cX11_wears 57 = .ok (.iload 4, 2) := kq.at kqdX11_wears_41 7 rfl
theorem dX11_wears_59 : decode cX11_wears 59 = .ok (.iadd, 1) := kq.at kqdX11_wears_41 8 rfl
theorem dX11_wears_60 : decode cX11_wears 60 = .ok (.iaload, 1) := kq.at kqdX11_wears_41 9 rfl
theorem dX11_wears_61 : decode cX11_wears 61 = .ok (.iload 5, 2) := kq.at kqdX11_wears_41 10 rfl
theorem dX11_wears_63 : decode cX11_wears 63 = .ok (.ishr, 1) := kq.at kqdX11_wears_41 11 rfl
theorem dX11_wears_64 : decode cX11_wears 64 = .ok (.iconst 1, 1) := kq.at kqdX11_wears_41 12 rfl
theorem dX11_wears_65 : decode cX11_wears 65 = .ok (.iand, 1) := kq.at kqdX11_wears_41 13 rfl
theorem dX11_wears_66 : decode cX11_wears 66 = .ok (.ifCond .eq 33, 3) := kq.at kqdX11_wears_41 14 rfl
theorem dX11_wears_69 : decode cX11_wears 69 = .ok (.aload_n 0, 1) := kq.at kqdX11_wears_41 15 rfl
theorem dX11_wears_70 : decode cX11_wears 70 = .ok (.invokevirtual 423, 3) := kq.at kqdX11_wears_41 16 rfl
theorem dX11_wears_73 : decode cX11_wears 73 = .ok (.iload_n 2, 1) := kq.at kqdX11_wears_41 17 rfl
theorem dX11_wears_74 : decode cX11_wears 74 = .ok (.if_icmp .lt 6, 3) := kq.at kqdX11_wears_41 18 rfl
theorem dX11_wears_77 : decode cX11_wears 77 = .ok (.goto 22, 3) := kq.at kqdX11_wears_41 19 rfl
theorem dX11_wears_80 : decode cX11_wears 80 = .ok (.aload_n 0, 1) := kq.at kqdX11_wears_41 20 rfl
theorem dX11_wears_81 : decode cX11_wears 81 = .ok (.getfield 89, 3) := kq.at kqdX11_wears_41 21 rfl
theorem dX11_wears_84 : decode cX11_wears 84 = .ok (.iload 4, 2) := kq.at kqdX11_wears_41 22 rfl
theorem dX11_wears_86 : decode cX11_wears 86 = .ok (.dup2, 1) := kq.at kqdX11_wears_41 23 rfl
theorem kqdX11_wears_87 : kq cX11_wears [(87, .iaload, 1), (88, .iconst 1, 1), (89, .iload 5, 2), (91, .ishl, 1), (92, .iconst (-1), 1), (93, .ixor, 1), (94, .iand, 1), (95, .iastore, 1), (96, .iinc 3 1, 3), (99, .iinc 5 1, 3), (102, .goto (-59), 3), (105, .iinc 4 1, 3), (108, .goto (-98), 3), (111, .iload_n 3, 1), (112, .ireturn, 1)] = true := by decide +kernel
theorem dX11_wears_87 : decode cX11_wears 87 = .ok (.iaload, 1) := kq.at kqdX11_wears_87 0 rfl
theorem dX11_wears_88 : decode cX11_wears 88 = .ok (.iconst 1, 1) := kq.at kqdX11_wears_87 1 rfl
theorem dX11_wears_89 : decode cX11_wears 89 = .ok (.iload 5, 2) := kq.at kqdX11_wears_87 2 rfl
theorem dX11_wears_91 : decode cX11_wears 91 = .ok (.ishl, 1) := kq.at kqdX11_wears_87 3 rfl
theorem dX11_wears_92 : decode cX11_wears 92 = .ok (.iconst (-1), 1) := kq.at kqdX11_wears_87 4 rfl
theorem dX11_wears_93 : decode cX11_wears 93 = .ok (.ixor, 1) := kq.at kqdX11_wears_87 5 rfl
theorem dX11_wears_94 : decode cX11_wears 94 = .ok (.iand, 1) := kq.at kqdX11_wears_87 6 rfl
theorem dX11_wears_95 : decode cX11_wears 95 = .ok (.iastore, 1) := kq.at kqdX11_wears_87 7 rfl
theorem dX11_wears_96 : decode cX11_wears 96 = .ok (.iinc 3 1, 3) := kq.at kqdX11_wears_87 8 rfl
theorem dX11_wears_99 : decode cX11_wears 99 = .ok (.iinc 5 1, 3) := kq.at kqdX11_wears_87 9 rfl
theorem dX11_wears_102 : decode cX11_wears 102 = .ok (.goto (-59), 3) := kq.at kqdX11_wears_87 10 rfl
theorem dX11_wears_105 : decode cX11_wears 105 = .ok (.iinc 4 1, 3) := kq.at kqdX11_wears_87 11 rfl
theorem dX11_wears_108 : decode cX11_wears 108 = .ok (.goto (-98), 3) := kq.at kqdX11_wears_87 12 rfl
theorem dX11_wears_111 : decode cX11_wears 111 = .ok (.iload_n 3, 1) := kq.at kqdX11_wears_87 13 rfl
theorem dX11_wears_112 : decode cX11_wears 112 = .ok (.ireturn, 1) := kq.at kqdX11_wears_87 14 rfl
theorem kqdX11_worn_0 : kq cX11_worn [(0, .iload_n 1, 1), (1, .i2l, 1), (2, .lconst 0, 1), (3, .ldc2_w 426, 3), (6, .invokestatic 341, 3), (9, .ifCond .eq 15, 3), (12, .iload_n 2, 1), (13, .i2l, 1), (14, .lconst 0, 1), (15, .ldc2_w 428, 3), (18, .invokestatic 341, 3), (21, .ifCond .ne 9, 3), (24, .aload_n 0, 1), (25, .iconst 1, 1), (26, .invokevirtual 188, 3), (29, .ireturn, 1), (30, .aload_n 0, 1), (31, .invokevirtual 306, 3), (34, .ifCond .ne 10, 3), (37, .aload_n 0, 1), (38, .bipush 6, 2), (40, .invokevirtual 188, 3), (43, .ireturn, 1), (44, .aload_n 0, 1)] = true := by decide +kernel
theorem dX11_worn_0 : decode cX11_worn 0 = .ok (.iload_n 1, 1) := kq.at kqdX11_worn_0 0 rfl
theorem dX11_worn_1 : decode cX11_worn 1 = .ok (.i2l, 1) := kq.at kqdX11_worn_0 1 rfl
theorem dX11_worn_2 : decode cX11_worn 2 = .ok (.lconst 0, 1) := kq.at kqdX11_worn_0 2 rfl
theorem dX11_worn_3 : decode cX11_worn 3 = .ok (.ldc2_w 426, 3) := kq.at kqdX11_worn_0 3 rfl
theorem dX11_worn_6 : decode cX11_worn 6 = .ok (.invokestatic 341, 3) := kq.at kqdX11_worn_0 4 rfl
theorem dX11_worn_9 : decode cX11_worn 9 = .ok (.ifCond .eq 15, 3) := kq.at kqdX11_worn_0 5 rfl
theorem dX11_worn_12 : decode cX11_worn 12 = .ok (.iload_n 2, 1) := kq.at kqdX11_worn_0 6 rfl
theorem dX11_worn_13 : decode cX11_worn 13 = .ok (.i2l, 1) := kq.at kqdX11_worn_0 7 rfl
theorem dX11_worn_14 : decode cX11_worn 14 = .ok (.lconst 0, 1) := kq.at kqdX11_worn_0 8 rfl
theorem dX11_worn_15 : decode cX11_worn 15 = .ok (.ldc2_w 428, 3) := kq.at kqdX11_worn_0 9 rfl
theorem dX11_worn_18 : decode cX11_worn 18 = .ok (.invokestatic 341, 3) := kq.at kqdX11_worn_0 10 rfl
theorem dX11_worn_21 : decode cX11_worn 21 = .ok (.ifCond .ne 9, 3) := kq.at kqdX11_worn_0 11 rfl
theorem dX11_worn_24 : decode cX11_worn 24 = .ok (.aload_n 0, 1) := kq.at kqdX11_worn_0 12 rfl
theorem dX11_worn_25 : decode cX11_worn 25 = .ok (.iconst 1, 1) := kq.at kqdX11_worn_0 13 rfl
theorem dX11_worn_26 : decode cX11_worn 26 = .ok (.invokevirtual 188, 3) := kq.at kqdX11_worn_0 14 rfl
theorem dX11_worn_29 : decode cX11_worn 29 = .ok (.ireturn, 1) := kq.at kqdX11_worn_0 15 rfl
theorem dX11_worn_30 : decode cX11_worn 30 = .ok (.aload_n 0, 1) := kq.at kqdX11_worn_0 16 rfl
theorem dX11_worn_31 : decode cX11_worn 31 = .ok (.invokevirtual 306, 3) := kq.at kqdX11_worn_0 17 rfl
theorem dX11_worn_34 : decode cX11_worn 34 = .ok (.ifCond .ne 10, 3) := kq.at kqdX11_worn_0 18 rfl
theorem dX11_worn_37 : decode cX11_worn 37 = .ok (.aload_n 0, 1) := kq.at kqdX11_worn_0 19 rfl
theorem dX11_worn_38 : decode cX11_worn 38 = .ok (.bipush 6, 2) := kq.at kqdX11_worn_0 20 rfl
theorem dX11_worn_40 : decode cX11_worn 40 = .ok (.invokevirtual 188, 3) := kq.at kqdX11_worn_0 21 rfl
theorem dX11_worn_43 : decode cX11_worn 43 = .ok (.ireturn, 1) := kq.at kqdX11_worn_0 22 rfl
theorem dX11_worn_44 : decode cX11_worn 44 = .ok (.aload_n 0, 1) := kq.at kqdX11_worn_0 23 rfl
theorem kqdX11_worn_45 : kq cX11_worn [(45, .iload_n 1, 1), (46, .iload_n 2, 1), (47, .invokevirtual 430, 3), (50, .istore_n 3, 1), (51, .aload_n 0, 1), (52, .aload_n 0, 1), (53, .getfield 7, 3), (56, .bipush 8, 2), (58, .iaload, 1), (59, .putfield 86, 3), (62, .iconst 0, 1), (63, .istore 4, 2), (65, .iload 4, 2), (67, .aload_n 0, 1), (68, .getfield 86, 3), (71, .if_icmp .ge 23, 3), (74, .aload_n 0, 1), (75, .getfield 92, 3), (78, .iload 4, 2), (80, .aload_n 0, 1), (81, .getfield 89, 3), (84, .iload 4, 2), (86, .iaload, 1), (87, .iastore, 1)] = true := by decide +kernel
theorem dX11_worn_45 : decode cX11_worn 45 = .ok (.iload_n 1, 1) := kq.at kqdX11_worn_45 0 rfl
theorem dX11_worn_46 : decode cX11_worn 46 = .ok (.iload_n 2, 1) := kq.at kqdX11_worn_45 1 rfl
theorem dX11_worn_47 : decode cX11_worn 47 = .ok (.invokevirtual 430, 3) := kq.at kqdX11_worn_45 2 rfl
theorem dX11_worn_50 : decode cX11_worn 50 = .ok (.istore_n 3, 1) := kq.at kqdX11_worn_45 3 rfl
theorem dX11_worn_51 : decode cX11_worn 51 = .ok (.aload_n 0, 1) := kq.at kqdX11_worn_45 4 rfl
theorem dX11_worn_52 : decode cX11_worn 52 = .ok (.aload_n 0, 1) := kq.at kqdX11_worn_45 5 rfl
theorem dX11_worn_53 : decode cX11_worn 53 = .ok (.getfield 7, 3) := kq.at kqdX11_worn_45 6 rfl
theorem dX11_worn_56 : decode cX11_worn 56 = .ok (.bipush 8, 2) := kq.at kqdX11_worn_45 7 rfl
theorem dX11_worn_58 : decode cX11_worn 58 = .ok (.iaload, 1) := kq.at kqdX11_worn_45 8 rfl
theorem dX11_worn_59 : decode cX11_worn 59 = .ok (.putfield 86, 3) := kq.at kqdX11_worn_45 9 rfl
theorem dX11_worn_62 : decode cX11_worn 62 = .ok (.iconst 0, 1) := kq.at kqdX11_worn_45 10 rfl
theorem dX11_worn_63 : decode cX11_worn 63 = .ok (.istore 4, 2) := kq.at kqdX11_worn_45 11 rfl
theorem dX11_worn_65 : decode cX11_worn 65 = .ok (.iload 4, 2) := kq.at kqdX11_worn_45 12 rfl
theorem dX11_worn_67 : decode cX11_worn 67 = .ok (.aload_n 0, 1) := kq.at kqdX11_worn_45 13 rfl
theorem dX11_worn_68 : decode cX11_worn 68 = .ok (.getfield 86, 3) := kq.at kqdX11_worn_45 14 rfl
theorem dX11_worn_71 : decode cX11_worn 71 = .ok (.if_icmp .ge 23, 3) := kq.at kqdX11_worn_45 15 rfl
theorem dX11_worn_74 : decode cX11_worn 74 = .ok (.aload_n 0, 1) := kq.at kqdX11_worn_45 16 rfl
theorem dX11_worn_75 : decode cX11_worn 75 = .ok (.getfield 92, 3) := kq.at kqdX11_worn_45 17 rfl
theorem dX11_worn_78 : decode cX11_worn 78 = .ok (.iload 4, 2) := kq.at kqdX11_worn_45 18 rfl
theorem dX11_worn_80 : decode cX11_worn 80 = .ok (.aload_n 0, 1) := kq.at kqdX11_worn_45 19 rfl
theorem dX11_worn_81 : decode cX11_worn 81 = .ok (.getfield 89, 3) := kq.at kqdX11_worn_45 20 rfl
theorem dX11_worn_84 : decode cX11_worn 84 = .ok (.iload 4, 2) := kq.at kqdX11_worn_45 21 rfl
theorem dX11_worn_86 : decode cX11_worn 86 = .ok (.iaload, 1) := kq.at kqdX11_worn_45 22 rfl
theorem dX11_worn_87 : decode cX11_worn 87 = .ok (.iastore, 1) := kq.at kqdX11_worn_45 23 rfl
theorem kqdX11_worn_88 : kq cX11_worn [(88, .iinc 4 1, 3), (91, .goto (-26), 3), (94, .aload_n 0, 1), (95, .iload_n 3, 1), (96, .invokevirtual 191, 3), (99, .ireturn, 1)] = true := by decide +kernel
theorem dX11_worn_88 : decode cX11_worn 88 = .ok (.iinc 4 1, 3) := kq.at kqdX11_worn_88 0 rfl
theorem dX11_worn_91 : decode cX11_worn 91 = .ok (.goto (-26), 3) := kq.at kqdX11_worn_88 1 rfl
theorem dX11_worn_94 : decode cX11_worn 94 = .ok (.aload_n 0, 1) := kq.at kqdX11_worn_88 2 rfl
theorem dX11_worn_95 : decode cX11_worn 95 = .ok (.iload_n 3, 1) := kq.at kqdX11_worn_88 3 rfl
theorem dX11_worn_96 : decode cX11_worn 96 = .ok (.invokevirtual 191, 3) := kq.at kqdX11_worn_88 4 rfl
theorem dX11_worn_99 : decode cX11_worn 99 = .ok (.ireturn, 1) := kq.at kqdX11_worn_88 5 rfl
theorem kqdX11_wornAt_0 : kq cX11_wornAt [(0, .iload_n 1, 1), (1, .ifCond .lt 11, 3), (4, .iload_n 1, 1), (5, .aload_n 0, 1), (6, .getfield 86, 3), (9, .if_icmp .lt 12, 3), (12, .aload_n 0, 1), (13, .bipush 6, 2), (15, .invokevirtual 188, 3), (18, .goto 13, 3), (21, .aload_n 0, 1), (22, .aload_n 0, 1), (23, .getfield 92, 3), (26, .iload_n 1, 1), (27, .iaload, 1), (28, .invokevirtual 191, 3), (31, .ireturn, 1)] = true := by decide +kernel
theorem dX11_wornAt_0 : decode cX11_wornAt 0 = .ok (.iload_n 1, 1) := kq.at kqdX11_wornAt_0 0 rfl
theorem dX11_wornAt_1 : decode cX11_wornAt 1 = .ok (.ifCond .lt 11, 3) := kq.at kqdX11_wornAt_0 1 rfl
theorem dX11_wornAt_4 : decode cX11_wornAt 4 = .ok (.iload_n 1, 1) := kq.at kqdX11_wornAt_0 2 rfl
theorem dX11_wornAt_5 : decode cX11_wornAt 5 = .ok (.aload_n 0, 1) := kq.at kqdX11_wornAt_0 3 rfl
theorem dX11_wornAt_6 : decode cX11_wornAt 6 = .ok (.getfield 86, 3) := kq.at kqdX11_wornAt_0 4 rfl
theorem dX11_wornAt_9 : decode cX11_wornAt 9 = .ok (.if_icmp .lt 12, 3) := kq.at kqdX11_wornAt_0 5 rfl
theorem dX11_wornAt_12 : decode cX11_wornAt 12 = .ok (.aload_n 0, 1) := kq.at kqdX11_wornAt_0 6 rfl
theorem dX11_wornAt_13 : decode cX11_wornAt 13 = .ok (.bipush 6, 2) := kq.at kqdX11_wornAt_0 7 rfl
theorem dX11_wornAt_15 : decode cX11_wornAt 15 = .ok (.invokevirtual 188, 3) := kq.at kqdX11_wornAt_0 8 rfl
theorem dX11_wornAt_18 : decode cX11_wornAt 18 = .ok (.goto 13, 3) := kq.at kqdX11_wornAt_0 9 rfl
theorem dX11_wornAt_21 : decode cX11_wornAt 21 = .ok (.aload_n 0, 1) := kq.at kqdX11_wornAt_0 10 rfl
theorem dX11_wornAt_22 : decode cX11_wornAt 22 = .ok (.aload_n 0, 1) := kq.at kqdX11_wornAt_0 11 rfl
theorem dX11_wornAt_23 : decode cX11_wornAt 23 = .ok (.getfield 92, 3) := kq.at kqdX11_wornAt_0 12 rfl
theorem dX11_wornAt_26 : decode cX11_wornAt 26 = .ok (.iload_n 1, 1) := kq.at kqdX11_wornAt_0 13 rfl
theorem dX11_wornAt_27 : decode cX11_wornAt 27 = .ok (.iaload, 1) := kq.at kqdX11_wornAt_0 14 rfl
theorem dX11_wornAt_28 : decode cX11_wornAt 28 = .ok (.invokevirtual 191, 3) := kq.at kqdX11_wornAt_0 15 rfl
theorem dX11_wornAt_31 : decode cX11_wornAt 31 = .ok (.ireturn, 1) := kq.at kqdX11_wornAt_0 16 rfl
theorem kqdX11_odds_0 : kq cX11_odds [(0, .iload_n 1, 1), (1, .i2l, 1), (2, .lconst 0, 1), (3, .ldc2_w 426, 3), (6, .invokestatic 341, 3), (9, .ifCond .eq 38, 3), (12, .iload_n 2, 1), (13, .i2l, 1), (14, .lconst 1, 1), (15, .ldc2_w 433, 3), (18, .invokestatic 341, 3), (21, .ifCond .eq 26, 3), (24, .iload_n 1, 1), (25, .iload_n 2, 1), (26, .iadd, 1), (27, .iconst 1, 1), (28, .isub, 1), (29, .sipush 9999, 3), (32, .if_icmp .gt 15, 3), (35, .iload_n 3, 1), (36, .i2l, 1), (37, .lconst 0, 1), (38, .ldc2_w 428, 3), (41, .invokestatic 341, 3)] = true := by decide +kernel
theorem dX11_odds_0 : decode cX11_odds 0 = .ok (.iload_n 1, 1) := kq.at kqdX11_odds_0 0 rfl
theorem dX11_odds_1 : decode cX11_odds 1 = .ok (.i2l, 1) := kq.at kqdX11_odds_0 1 rfl
theorem dX11_odds_2 : decode cX11_odds 2 = .ok (.lconst 0, 1) := kq.at kqdX11_odds_0 2 rfl
theorem dX11_odds_3 : decode cX11_odds 3 = .ok (.ldc2_w 426, 3) := kq.at kqdX11_odds_0 3 rfl
theorem dX11_odds_6 : decode cX11_odds 6 = .ok (.invokestatic 341, 3) := kq.at kqdX11_odds_0 4 rfl
theorem dX11_odds_9 : decode cX11_odds 9 = .ok (.ifCond .eq 38, 3) := kq.at kqdX11_odds_0 5 rfl
theorem dX11_odds_12 : decode cX11_odds 12 = .ok (.iload_n 2, 1) := kq.at kqdX11_odds_0 6 rfl
theorem dX11_odds_13 : decode cX11_odds 13 = .ok (.i2l, 1) := kq.at kqdX11_odds_0 7 rfl
theorem dX11_odds_14 : decode cX11_odds 14 = .ok (.lconst 1, 1) := kq.at kqdX11_odds_0 8 rfl
theorem dX11_odds_15 : decode cX11_odds 15 = .ok (.ldc2_w 433, 3) := kq.at kqdX11_odds_0 9 rfl
theorem dX11_odds_18 : decode cX11_odds 18 = .ok (.invokestatic 341, 3) := kq.at kqdX11_odds_0 10 rfl
theorem dX11_odds_21 : decode cX11_odds 21 = .ok (.ifCond .eq 26, 3) := kq.at kqdX11_odds_0 11 rfl
theorem dX11_odds_24 : decode cX11_odds 24 = .ok (.iload_n 1, 1) := kq.at kqdX11_odds_0 12 rfl
theorem dX11_odds_25 : decode cX11_odds 25 = .ok (.iload_n 2, 1) := kq.at kqdX11_odds_0 13 rfl
theorem dX11_odds_26 : decode cX11_odds 26 = .ok (.iadd, 1) := kq.at kqdX11_odds_0 14 rfl
theorem dX11_odds_27 : decode cX11_odds 27 = .ok (.iconst 1, 1) := kq.at kqdX11_odds_0 15 rfl
theorem dX11_odds_28 : decode cX11_odds 28 = .ok (.isub, 1) := kq.at kqdX11_odds_0 16 rfl
theorem dX11_odds_29 : decode cX11_odds 29 = .ok (.sipush 9999, 3) := kq.at kqdX11_odds_0 17 rfl
theorem dX11_odds_32 : decode cX11_odds 32 = .ok (.if_icmp .gt 15, 3) := kq.at kqdX11_odds_0 18 rfl
theorem dX11_odds_35 : decode cX11_odds 35 = .ok (.iload_n 3, 1) := kq.at kqdX11_odds_0 19 rfl
theorem dX11_odds_36 : decode cX11_odds 36 = .ok (.i2l, 1) := kq.at kqdX11_odds_0 20 rfl
theorem dX11_odds_37 : decode cX11_odds 37 = .ok (.lconst 0, 1) := kq.at kqdX11_odds_0 21 rfl
theorem dX11_odds_38 : decode cX11_odds 38 = .ok (.ldc2_w 428, 3) := kq.at kqdX11_odds_0 22 rfl
theorem dX11_odds_41 : decode cX11_odds 41 = .ok (.invokestatic 341, 3) := kq.at kqdX11_odds_0 23 rfl
theorem kqdX11_odds_44 : kq cX11_odds [(44, .ifCond .ne 9, 3), (47, .aload_n 0, 1), (48, .iconst 1, 1), (49, .invokevirtual 105, 3), (52, .ireturn, 1), (53, .aload_n 0, 1), (54, .invokevirtual 306, 3), (57, .ifCond .ne 10, 3), (60, .aload_n 0, 1), (61, .bipush 6, 2), (63, .invokevirtual 105, 3), (66, .ireturn, 1), (67, .iconst 0, 1), (68, .istore 4, 2), (70, .iconst 0, 1), (71, .istore 5, 2), (73, .iload 5, 2), (75, .iload_n 2, 1), (76, .if_icmp .ge 104, 3), (79, .aload_n 0, 1), (80, .iload_n 1, 1), (81, .iload 5, 2), (83, .iadd, 1), (84, .iload_n 3, 1)] = true := by decide +kernel
theorem dX11_odds_44 : decode cX11_odds 44 = .ok (.ifCond .ne 9, 3) := kq.at kqdX11_odds_44 0 rfl
theorem dX11_odds_47 : decode cX11_odds 47 = .ok (.aload_n 0, 1) := kq.at kqdX11_odds_44 1 rfl
theorem dX11_odds_48 : decode cX11_odds 48 = .ok (.iconst 1, 1) := kq.at kqdX11_odds_44 2 rfl
theorem dX11_odds_49 : decode cX11_odds 49 = .ok (.invokevirtual 105, 3) := kq.at kqdX11_odds_44 3 rfl
theorem dX11_odds_52 : decode cX11_odds 52 = .ok (.ireturn, 1) := kq.at kqdX11_odds_44 4 rfl
theorem dX11_odds_53 : decode cX11_odds 53 = .ok (.aload_n 0, 1) := kq.at kqdX11_odds_44 5 rfl
theorem dX11_odds_54 : decode cX11_odds 54 = .ok (.invokevirtual 306, 3) := kq.at kqdX11_odds_44 6 rfl
theorem dX11_odds_57 : decode cX11_odds 57 = .ok (.ifCond .ne 10, 3) := kq.at kqdX11_odds_44 7 rfl
theorem dX11_odds_60 : decode cX11_odds 60 = .ok (.aload_n 0, 1) := kq.at kqdX11_odds_44 8 rfl
theorem dX11_odds_61 : decode cX11_odds 61 = .ok (.bipush 6, 2) := kq.at kqdX11_odds_44 9 rfl
theorem dX11_odds_63 : decode cX11_odds 63 = .ok (.invokevirtual 105, 3) := kq.at kqdX11_odds_44 10 rfl
theorem dX11_odds_66 : decode cX11_odds 66 = .ok (.ireturn, 1) := kq.at kqdX11_odds_44 11 rfl
theorem dX11_odds_67 : decode cX11_odds 67 = .ok (.iconst 0, 1) := kq.at kqdX11_odds_44 12 rfl
theorem dX11_odds_68 : decode cX11_odds 68 = .ok (.istore 4, 2) := kq.at kqdX11_odds_44 13 rfl
theorem dX11_odds_70 : decode cX11_odds 70 = .ok (.iconst 0, 1) := kq.at kqdX11_odds_44 14 rfl
theorem dX11_odds_71 : decode cX11_odds 71 = .ok (.istore 5, 2) := kq.at kqdX11_odds_44 15 rfl
theorem dX11_odds_73 : decode cX11_odds 73 = .ok (.iload 5, 2) := kq.at kqdX11_odds_44 16 rfl
theorem dX11_odds_75 : decode cX11_odds 75 = .ok (.iload_n 2, 1) := kq.at kqdX11_odds_44 17 rfl
theorem dX11_odds_76 : decode cX11_odds 76 = .ok (.if_icmp .ge 104, 3) := kq.at kqdX11_odds_44 18 rfl
theorem dX11_odds_79 : decode cX11_odds 79 = .ok (.aload_n 0, 1) := kq.at kqdX11_odds_44 19 rfl
theorem dX11_odds_80 : decode cX11_odds 80 = .ok (.iload_n 1, 1) := kq.at kqdX11_odds_44 20 rfl
theorem dX11_odds_81 : decode cX11_odds 81 = .ok (.iload 5, 2) := kq.at kqdX11_odds_44 21 rfl
theorem dX11_odds_83 : decode cX11_odds 83 = .ok (.iadd, 1) := kq.at kqdX11_odds_44 22 rfl
theorem dX11_odds_84 : decode cX11_odds 84 = .ok (.iload_n 3, 1) := kq.at kqdX11_odds_44 23 rfl
theorem kqdX11_odds_85 : kq cX11_odds [(85, .invokevirtual 430, 3), (88, .istore 6, 2), (90, .iload 6, 2), (92, .ifCond .lt 7, 3), (95, .iconst 1, 1), (96, .goto 4, 3), (99, .iconst 0, 1), (100, .istore 7, 2), (102, .iconst 0, 1), (103, .istore 8, 2), (105, .iload 8, 2), (107, .aload_n 0, 1), (108, .getfield 7, 3), (111, .bipush 8, 2), (113, .iaload, 1), (114, .if_icmp .ge 45, 3), (117, .iload 7, 2), (119, .ifCond .eq 31, 3), (122, .aload_n 0, 1), (123, .getfield 7, 3), (126, .sipush 600, 3), (129, .iload 8, 2), (131, .iadd, 1), (132, .iaload, 1)] = true := by decide +kernel
theorem dX11_odds_85 : decode cX11_odds 85 = .ok (.invokevirtual 430, 3) := kq.at kqdX11_odds_85 0 rfl
theorem dX11_odds_88 : decode cX11_odds 88 = .ok (.istore 6, 2) := kq.at kqdX11_odds_85 1 rfl
theorem dX11_odds_90 : decode cX11_odds 90 = .ok (.iload 6, 2) := kq.at kqdX11_odds_85 2 rfl
theorem dX11_odds_92 : decode cX11_odds 92 = .ok (.ifCond .lt 7, 3) := kq.at kqdX11_odds_85 3 rfl
theorem dX11_odds_95 : decode cX11_odds 95 = .ok (.iconst 1, 1) := kq.at kqdX11_odds_85 4 rfl
theorem dX11_odds_96 : decode cX11_odds 96 = .ok (.goto 4, 3) := kq.at kqdX11_odds_85 5 rfl
theorem dX11_odds_99 : decode cX11_odds 99 = .ok (.iconst 0, 1) := kq.at kqdX11_odds_85 6 rfl
theorem dX11_odds_100 : decode cX11_odds 100 = .ok (.istore 7, 2) := kq.at kqdX11_odds_85 7 rfl
theorem dX11_odds_102 : decode cX11_odds 102 = .ok (.iconst 0, 1) := kq.at kqdX11_odds_85 8 rfl
theorem dX11_odds_103 : decode cX11_odds 103 = .ok (.istore 8, 2) := kq.at kqdX11_odds_85 9 rfl
theorem dX11_odds_105 : decode cX11_odds 105 = .ok (.iload 8, 2) := kq.at kqdX11_odds_85 10 rfl
theorem dX11_odds_107 : decode cX11_odds 107 = .ok (.aload_n 0, 1) := kq.at kqdX11_odds_85 11 rfl
theorem dX11_odds_108 : decode cX11_odds 108 = .ok (.getfield 7, 3) := kq.at kqdX11_odds_85 12 rfl
theorem dX11_odds_111 : decode cX11_odds 111 = .ok (.bipush 8, 2) := kq.at kqdX11_odds_85 13 rfl
theorem dX11_odds_113 : decode cX11_odds 113 = .ok (.iaload, 1) := kq.at kqdX11_odds_85 14 rfl
theorem dX11_odds_114 : decode cX11_odds 114 = .ok (.if_icmp .ge 45, 3) := kq.at kqdX11_odds_85 15 rfl
theorem dX11_odds_117 : decode cX11_odds 117 = .ok (.iload 7, 2) := kq.at kqdX11_odds_85 16 rfl
theorem dX11_odds_119 : decode cX11_odds 119 = .ok (.ifCond .eq 31, 3) := kq.at kqdX11_odds_85 17 rfl
theorem dX11_odds_122 : decode cX11_odds 122 = .ok (.aload_n 0, 1) := kq.at kqdX11_odds_85 18 rfl
theorem dX11_odds_123 : decode cX11_odds 123 = .ok (.getfield 7, 3) := kq.at kqdX11_odds_85 19 rfl
theorem dX11_odds_126 : decode cX11_odds 126 = .ok (.sipush 600, 3) := kq.at kqdX11_odds_85 20 rfl
theorem dX11_odds_129 : decode cX11_odds 129 = .ok (.iload 8, 2) := kq.at kqdX11_odds_85 21 rfl
theorem dX11_odds_131 : decode cX11_odds 131 = .ok (.iadd, 1) := kq.at kqdX11_odds_85 22 rfl
theorem dX11_odds_132 : decode cX11_odds 132 = .ok (.iaload, 1) := kq.at kqdX11_odds_85 23 rfl
theorem kqdX11_odds_133 : kq cX11_odds [(133, .ifCond .eq 13, 3), (136, .aload_n 0, 1), (137, .getfield 89, 3), (140, .iload 8, 2), (142, .iaload, 1), (143, .ifCond .eq 7, 3), (146, .iconst 1, 1), (147, .goto 4, 3), (150, .iconst 0, 1), (151, .istore 7, 2), (153, .iinc 8 1, 3), (156, .goto (-51), 3), (159, .iload 4, 2), (161, .iload 7, 2), (163, .ifCond .eq 7, 3), (166, .iconst 1, 1), (167, .goto 4, 3), (170, .iconst 0, 1), (171, .iadd, 1), (172, .istore 4, 2), (174, .iinc 5 1, 3), (177, .goto (-104), 3), (180, .aload_n 0, 1), (181, .iload 4, 2)] = true := by decide +kernel
theorem dX11_odds_133 : decode cX11_odds 133 = .ok (.ifCond .eq 13, 3) := kq.at kqdX11_odds_133 0 rfl
theorem dX11_odds_136 : decode cX11_odds 136 = .ok (.aload_n 0, 1) := kq.at kqdX11_odds_133 1 rfl
theorem dX11_odds_137 : decode cX11_odds 137 = .ok (.getfield 89, 3) := kq.at kqdX11_odds_133 2 rfl
theorem dX11_odds_140 : decode cX11_odds 140 = .ok (.iload 8, 2) := kq.at kqdX11_odds_133 3 rfl
theorem dX11_odds_142 : decode cX11_odds 142 = .ok (.iaload, 1) := kq.at kqdX11_odds_133 4 rfl
theorem dX11_odds_143 : decode cX11_odds 143 = .ok (.ifCond .eq 7, 3) := kq.at kqdX11_odds_133 5 rfl
theorem dX11_odds_146 : decode cX11_odds 146 = .ok (.iconst 1, 1) := kq.at kqdX11_odds_133 6 rfl
theorem dX11_odds_147 : decode cX11_odds 147 = .ok (.goto 4, 3) := kq.at kqdX11_odds_133 7 rfl
theorem dX11_odds_150 : decode cX11_odds 150 = .ok (.iconst 0, 1) := kq.at kqdX11_odds_133 8 rfl
theorem dX11_odds_151 : decode cX11_odds 151 = .ok (.istore 7, 2) := kq.at kqdX11_odds_133 9 rfl
theorem dX11_odds_153 : decode cX11_odds 153 = .ok (.iinc 8 1, 3) := kq.at kqdX11_odds_133 10 rfl
theorem dX11_odds_156 : decode cX11_odds 156 = .ok (.goto (-51), 3) := kq.at kqdX11_odds_133 11 rfl
theorem dX11_odds_159 : decode cX11_odds 159 = .ok (.iload 4, 2) := kq.at kqdX11_odds_133 12 rfl
theorem dX11_odds_161 : decode cX11_odds 161 = .ok (.iload 7, 2) := kq.at kqdX11_odds_133 13 rfl
theorem dX11_odds_163 : decode cX11_odds 163 = .ok (.ifCond .eq 7, 3) := kq.at kqdX11_odds_133 14 rfl
theorem dX11_odds_166 : decode cX11_odds 166 = .ok (.iconst 1, 1) := kq.at kqdX11_odds_133 15 rfl
theorem dX11_odds_167 : decode cX11_odds 167 = .ok (.goto 4, 3) := kq.at kqdX11_odds_133 16 rfl
theorem dX11_odds_170 : decode cX11_odds 170 = .ok (.iconst 0, 1) := kq.at kqdX11_odds_133 17 rfl
theorem dX11_odds_171 : decode cX11_odds 171 = .ok (.iadd, 1) := kq.at kqdX11_odds_133 18 rfl
theorem dX11_odds_172 : decode cX11_odds 172 = .ok (.istore 4, 2) := kq.at kqdX11_odds_133 19 rfl
theorem dX11_odds_174 : decode cX11_odds 174 = .ok (.iinc 5 1, 3) := kq.at kqdX11_odds_133 20 rfl
theorem dX11_odds_177 : decode cX11_odds 177 = .ok (.goto (-104), 3) := kq.at kqdX11_odds_133 21 rfl
theorem dX11_odds_180 : decode cX11_odds 180 = .ok (.aload_n 0, 1) := kq.at kqdX11_odds_133 22 rfl
theorem dX11_odds_181 : decode cX11_odds 181 = .ok (.iload 4, 2) := kq.at kqdX11_odds_133 23 rfl
theorem kqdX11_odds_183 : kq cX11_odds [(183, .i2l, 1), (184, .iload_n 2, 1), (185, .i2l, 1), (186, .invokevirtual 435, 3), (189, .ireturn, 1)] = true := by decide +kernel
theorem dX11_odds_183 : decode cX11_odds 183 = .ok (.i2l, 1) := kq.at kqdX11_odds_183 0 rfl
theorem dX11_odds_184 : decode cX11_odds 184 = .ok (.iload_n 2, 1) := kq.at kqdX11_odds_183 1 rfl
theorem dX11_odds_185 : decode cX11_odds 185 = .ok (.i2l, 1) := kq.at kqdX11_odds_183 2 rfl
theorem dX11_odds_186 : decode cX11_odds 186 = .ok (.invokevirtual 435, 3) := kq.at kqdX11_odds_183 3 rfl
theorem dX11_odds_189 : decode cX11_odds 189 = .ok (.ireturn, 1) := kq.at kqdX11_odds_183 4 rfl
theorem kqdX11_copies_0 : kq cX11_copies [(0, .iconst 0, 1), (1, .istore_n 3, 1), (2, .iload_n 3, 1), (3, .sipush 3300, 3), (6, .if_icmp .ge 33, 3), (9, .aload_n 0, 1), (10, .getfield 7, 3), (13, .sipush 3300, 3), (16, .iload_n 2, 1), (17, .imul, 1), (18, .iload_n 3, 1), (19, .iadd, 1), (20, .aload_n 0, 1), (21, .getfield 7, 3), (24, .sipush 3300, 3), (27, .iload_n 1, 1), (28, .imul, 1), (29, .iload_n 3, 1), (30, .iadd, 1), (31, .iaload, 1), (32, .iastore, 1), (33, .iinc 3 1, 3), (36, .goto (-34), 3), (39, .return_, 1)] = true := by decide +kernel
theorem dX11_copies_0 : decode cX11_copies 0 = .ok (.iconst 0, 1) := kq.at kqdX11_copies_0 0 rfl
theorem dX11_copies_1 : decode cX11_copies 1 = .ok (.istore_n 3, 1) := kq.at kqdX11_copies_0 1 rfl
theorem dX11_copies_2 : decode cX11_copies 2 = .ok (.iload_n 3, 1) := kq.at kqdX11_copies_0 2 rfl
theorem dX11_copies_3 : decode cX11_copies 3 = .ok (.sipush 3300, 3) := kq.at kqdX11_copies_0 3 rfl
theorem dX11_copies_6 : decode cX11_copies 6 = .ok (.if_icmp .ge 33, 3) := kq.at kqdX11_copies_0 4 rfl
theorem dX11_copies_9 : decode cX11_copies 9 = .ok (.aload_n 0, 1) := kq.at kqdX11_copies_0 5 rfl
theorem dX11_copies_10 : decode cX11_copies 10 = .ok (.getfield 7, 3) := kq.at kqdX11_copies_0 6 rfl
theorem dX11_copies_13 : decode cX11_copies 13 = .ok (.sipush 3300, 3) := kq.at kqdX11_copies_0 7 rfl
theorem dX11_copies_16 : decode cX11_copies 16 = .ok (.iload_n 2, 1) := kq.at kqdX11_copies_0 8 rfl
theorem dX11_copies_17 : decode cX11_copies 17 = .ok (.imul, 1) := kq.at kqdX11_copies_0 9 rfl
theorem dX11_copies_18 : decode cX11_copies 18 = .ok (.iload_n 3, 1) := kq.at kqdX11_copies_0 10 rfl
theorem dX11_copies_19 : decode cX11_copies 19 = .ok (.iadd, 1) := kq.at kqdX11_copies_0 11 rfl
theorem dX11_copies_20 : decode cX11_copies 20 = .ok (.aload_n 0, 1) := kq.at kqdX11_copies_0 12 rfl
theorem dX11_copies_21 : decode cX11_copies 21 = .ok (.getfield 7, 3) := kq.at kqdX11_copies_0 13 rfl
theorem dX11_copies_24 : decode cX11_copies 24 = .ok (.sipush 3300, 3) := kq.at kqdX11_copies_0 14 rfl
theorem dX11_copies_27 : decode cX11_copies 27 = .ok (.iload_n 1, 1) := kq.at kqdX11_copies_0 15 rfl
theorem dX11_copies_28 : decode cX11_copies 28 = .ok (.imul, 1) := kq.at kqdX11_copies_0 16 rfl
theorem dX11_copies_29 : decode cX11_copies 29 = .ok (.iload_n 3, 1) := kq.at kqdX11_copies_0 17 rfl
theorem dX11_copies_30 : decode cX11_copies 30 = .ok (.iadd, 1) := kq.at kqdX11_copies_0 18 rfl
theorem dX11_copies_31 : decode cX11_copies 31 = .ok (.iaload, 1) := kq.at kqdX11_copies_0 19 rfl
theorem dX11_copies_32 : decode cX11_copies 32 = .ok (.iastore, 1) := kq.at kqdX11_copies_0 20 rfl
theorem dX11_copies_33 : decode cX11_copies 33 = .ok (.iinc 3 1, 3) := kq.at kqdX11_copies_0 21 rfl
theorem dX11_copies_36 : decode cX11_copies 36 = .ok (.goto (-34), 3) := kq.at kqdX11_copies_0 22 rfl
theorem dX11_copies_39 : decode cX11_copies 39 = .ok (.return_, 1) := kq.at kqdX11_copies_0 23 rfl
theorem kqdX11_mark_0 : kq cX11_mark [(0, .aload_n 0, 1), (1, .getfield 439, 3), (4, .iconst 3, 1), (5, .if_icmp .ne 9, 3), (8, .aload_n 0, 1), (9, .iconst 4, 1), (10, .invokevirtual 188, 3), (13, .ireturn, 1), (14, .aload_n 0, 1), (15, .dup, 1), (16, .getfield 439, 3), (19, .iconst 1, 1), (20, .iadd, 1), (21, .putfield 439, 3), (24, .aload_n 0, 1), (25, .iconst 0, 1), (26, .aload_n 0, 1), (27, .getfield 439, 3), (30, .invokevirtual 442, 3), (33, .aload_n 0, 1), (34, .aload_n 0, 1), (35, .getfield 439, 3), (38, .invokevirtual 191, 3), (41, .ireturn, 1)] = true := by decide +kernel
theorem dX11_mark_0 : decode cX11_mark 0 = .ok (.aload_n 0, 1) := kq.at kqdX11_mark_0 0 rfl
theorem dX11_mark_1 : decode cX11_mark 1 = .ok (.getfield 439, 3) := kq.at kqdX11_mark_0 1 rfl
theorem dX11_mark_4 : decode cX11_mark 4 = .ok (.iconst 3, 1) := kq.at kqdX11_mark_0 2 rfl
theorem dX11_mark_5 : decode cX11_mark 5 = .ok (.if_icmp .ne 9, 3) := kq.at kqdX11_mark_0 3 rfl
theorem dX11_mark_8 : decode cX11_mark 8 = .ok (.aload_n 0, 1) := kq.at kqdX11_mark_0 4 rfl
theorem dX11_mark_9 : decode cX11_mark 9 = .ok (.iconst 4, 1) := kq.at kqdX11_mark_0 5 rfl
theorem dX11_mark_10 : decode cX11_mark 10 = .ok (.invokevirtual 188, 3) := kq.at kqdX11_mark_0 6 rfl
theorem dX11_mark_13 : decode cX11_mark 13 = .ok (.ireturn, 1) := kq.at kqdX11_mark_0 7 rfl
theorem dX11_mark_14 : decode cX11_mark 14 = .ok (.aload_n 0, 1) := kq.at kqdX11_mark_0 8 rfl
theorem dX11_mark_15 : decode cX11_mark 15 = .ok (.dup, 1) := kq.at kqdX11_mark_0 9 rfl
theorem dX11_mark_16 : decode cX11_mark 16 = .ok (.getfield 439, 3) := kq.at kqdX11_mark_0 10 rfl
theorem dX11_mark_19 : decode cX11_mark 19 = .ok (.iconst 1, 1) := kq.at kqdX11_mark_0 11 rfl
theorem dX11_mark_20 : decode cX11_mark 20 = .ok (.iadd, 1) := kq.at kqdX11_mark_0 12 rfl
theorem dX11_mark_21 : decode cX11_mark 21 = .ok (.putfield 439, 3) := kq.at kqdX11_mark_0 13 rfl
theorem dX11_mark_24 : decode cX11_mark 24 = .ok (.aload_n 0, 1) := kq.at kqdX11_mark_0 14 rfl
theorem dX11_mark_25 : decode cX11_mark 25 = .ok (.iconst 0, 1) := kq.at kqdX11_mark_0 15 rfl
theorem dX11_mark_26 : decode cX11_mark 26 = .ok (.aload_n 0, 1) := kq.at kqdX11_mark_0 16 rfl
theorem dX11_mark_27 : decode cX11_mark 27 = .ok (.getfield 439, 3) := kq.at kqdX11_mark_0 17 rfl
theorem dX11_mark_30 : decode cX11_mark 30 = .ok (.invokevirtual 442, 3) := kq.at kqdX11_mark_0 18 rfl
theorem dX11_mark_33 : decode cX11_mark 33 = .ok (.aload_n 0, 1) := kq.at kqdX11_mark_0 19 rfl
theorem dX11_mark_34 : decode cX11_mark 34 = .ok (.aload_n 0, 1) := kq.at kqdX11_mark_0 20 rfl
theorem dX11_mark_35 : decode cX11_mark 35 = .ok (.getfield 439, 3) := kq.at kqdX11_mark_0 21 rfl
theorem dX11_mark_38 : decode cX11_mark 38 = .ok (.invokevirtual 191, 3) := kq.at kqdX11_mark_0 22 rfl
theorem dX11_mark_41 : decode cX11_mark 41 = .ok (.ireturn, 1) := kq.at kqdX11_mark_0 23 rfl
theorem kqdX11_back_0 : kq cX11_back [(0, .aload_n 0, 1), (1, .getfield 439, 3), (4, .ifCond .ne 10, 3), (7, .aload_n 0, 1), (8, .bipush 6, 2), (10, .invokevirtual 188, 3), (13, .ireturn, 1), (14, .aload_n 0, 1), (15, .aload_n 0, 1), (16, .getfield 439, 3), (19, .iconst 0, 1), (20, .invokevirtual 442, 3), (23, .aload_n 0, 1), (24, .dup, 1), (25, .getfield 439, 3), (28, .iconst 1, 1), (29, .isub, 1), (30, .putfield 439, 3), (33, .aload_n 0, 1), (34, .aload_n 0, 1), (35, .getfield 439, 3), (38, .invokevirtual 191, 3), (41, .ireturn, 1)] = true := by decide +kernel
theorem dX11_back_0 : decode cX11_back 0 = .ok (.aload_n 0, 1) := kq.at kqdX11_back_0 0 rfl
theorem dX11_back_1 : decode cX11_back 1 = .ok (.getfield 439, 3) := kq.at kqdX11_back_0 1 rfl
theorem dX11_back_4 : decode cX11_back 4 = .ok (.ifCond .ne 10, 3) := kq.at kqdX11_back_0 2 rfl
theorem dX11_back_7 : decode cX11_back 7 = .ok (.aload_n 0, 1) := kq.at kqdX11_back_0 3 rfl
theorem dX11_back_8 : decode cX11_back 8 = .ok (.bipush 6, 2) := kq.at kqdX11_back_0 4 rfl
theorem dX11_back_10 : decode cX11_back 10 = .ok (.invokevirtual 188, 3) := kq.at kqdX11_back_0 5 rfl
theorem dX11_back_13 : decode cX11_back 13 = .ok (.ireturn, 1) := kq.at kqdX11_back_0 6 rfl
theorem dX11_back_14 : decode cX11_back 14 = .ok (.aload_n 0, 1) := kq.at kqdX11_back_0 7 rfl
theorem dX11_back_15 : decode cX11_back 15 = .ok (.aload_n 0, 1) := kq.at kqdX11_back_0 8 rfl
theorem dX11_back_16 : decode cX11_back 16 = .ok (.getfield 439, 3) := kq.at kqdX11_back_0 9 rfl
theorem dX11_back_19 : decode cX11_back 19 = .ok (.iconst 0, 1) := kq.at kqdX11_back_0 10 rfl
theorem dX11_back_20 : decode cX11_back 20 = .ok (.invokevirtual 442, 3) := kq.at kqdX11_back_0 11 rfl
theorem dX11_back_23 : decode cX11_back 23 = .ok (.aload_n 0, 1) := kq.at kqdX11_back_0 12 rfl
theorem dX11_back_24 : decode cX11_back 24 = .ok (.dup, 1) := kq.at kqdX11_back_0 13 rfl
theorem dX11_back_25 : decode cX11_back 25 = .ok (.getfield 439, 3) := kq.at kqdX11_back_0 14 rfl
theorem dX11_back_28 : decode cX11_back 28 = .ok (.iconst 1, 1) := kq.at kqdX11_back_0 15 rfl
theorem dX11_back_29 : decode cX11_back 29 = .ok (.isub, 1) := kq.at kqdX11_back_0 16 rfl
theorem dX11_back_30 : decode cX11_back 30 = .ok (.putfield 439, 3) := kq.at kqdX11_back_0 17 rfl
theorem dX11_back_33 : decode cX11_back 33 = .ok (.aload_n 0, 1) := kq.at kqdX11_back_0 18 rfl
theorem dX11_back_34 : decode cX11_back 34 = .ok (.aload_n 0, 1) := kq.at kqdX11_back_0 19 rfl
theorem dX11_back_35 : decode cX11_back 35 = .ok (.getfield 439, 3) := kq.at kqdX11_back_0 20 rfl
theorem dX11_back_38 : decode cX11_back 38 = .ok (.invokevirtual 191, 3) := kq.at kqdX11_back_0 21 rfl
theorem dX11_back_41 : decode cX11_back 41 = .ok (.ireturn, 1) := kq.at kqdX11_back_0 22 rfl
theorem kqdJ6_bitCount_0f7a4_0 : kq cJ6_bitCount_0f7a4 [(0, .iload_n 0, 1), (1, .iload_n 0, 1), (2, .iconst 1, 1), (3, .iushr, 1), (4, .ldc_w 265, 3), (7, .iand, 1), (8, .isub, 1), (9, .istore_n 0, 1), (10, .iload_n 0, 1), (11, .ldc_w 266, 3), (14, .iand, 1), (15, .iload_n 0, 1), (16, .iconst 2, 1), (17, .iushr, 1), (18, .ldc_w 266, 3), (21, .iand, 1), (22, .iadd, 1), (23, .istore_n 0, 1), (24, .iload_n 0, 1), (25, .iload_n 0, 1), (26, .iconst 4, 1), (27, .iushr, 1), (28, .iadd, 1), (29, .ldc_w 267, 3)] = true := by decide +kernel
theorem dJ6_bitCount_0f7a4_0 : decode cJ6_bitCount_0f7a4 0 = .ok (.iload_n 0, 1) := kq.at kqdJ6_bitCount_0f7a4_0 0 rfl
theorem dJ6_bitCount_0f7a4_1 : decode cJ6_bitCount_0f7a4 1 = .ok (.iload_n 0, 1) := kq.at kqdJ6_bitCount_0f7a4_0 1 rfl
theorem dJ6_bitCount_0f7a4_2 : decode cJ6_bitCount_0f7a4 2 = .ok (.iconst 1, 1) := kq.at kqdJ6_bitCount_0f7a4_0 2 rfl
theorem dJ6_bitCount_0f7a4_3 : decode cJ6_bitCount_0f7a4 3 = .ok (.iushr, 1) := kq.at kqdJ6_bitCount_0f7a4_0 3 rfl
theorem dJ6_bitCount_0f7a4_4 : decode cJ6_bitCount_0f7a4 4 = .ok (.ldc_w 265, 3) := kq.at kqdJ6_bitCount_0f7a4_0 4 rfl
theorem dJ6_bitCount_0f7a4_7 : decode cJ6_bitCount_0f7a4 7 = .ok (.iand, 1) := kq.at kqdJ6_bitCount_0f7a4_0 5 rfl
theorem dJ6_bitCount_0f7a4_8 : decode cJ6_bitCount_0f7a4 8 = .ok (.isub, 1) := kq.at kqdJ6_bitCount_0f7a4_0 6 rfl
theorem dJ6_bitCount_0f7a4_9 : decode cJ6_bitCount_0f7a4 9 = .ok (.istore_n 0, 1) := kq.at kqdJ6_bitCount_0f7a4_0 7 rfl
theorem dJ6_bitCount_0f7a4_10 : decode cJ6_bitCount_0f7a4 10 = .ok (.iload_n 0, 1) := kq.at kqdJ6_bitCount_0f7a4_0 8 rfl
theorem dJ6_bitCount_0f7a4_11 : decode cJ6_bitCount_0f7a4 11 = .ok (.ldc_w 266, 3) := kq.at kqdJ6_bitCount_0f7a4_0 9 rfl
theorem dJ6_bitCount_0f7a4_14 : decode cJ6_bitCount_0f7a4 14 = .ok (.iand, 1) := kq.at kqdJ6_bitCount_0f7a4_0 10 rfl
theorem dJ6_bitCount_0f7a4_15 : decode cJ6_bitCount_0f7a4 15 = .ok (.iload_n 0, 1) := kq.at kqdJ6_bitCount_0f7a4_0 11 rfl
theorem dJ6_bitCount_0f7a4_16 : decode cJ6_bitCount_0f7a4 16 = .ok (.iconst 2, 1) := kq.at kqdJ6_bitCount_0f7a4_0 12 rfl
theorem dJ6_bitCount_0f7a4_17 : decode cJ6_bitCount_0f7a4 17 = .ok (.iushr, 1) := kq.at kqdJ6_bitCount_0f7a4_0 13 rfl
theorem dJ6_bitCount_0f7a4_18 : decode cJ6_bitCount_0f7a4 18 = .ok (.ldc_w 266, 3) := kq.at kqdJ6_bitCount_0f7a4_0 14 rfl
theorem dJ6_bitCount_0f7a4_21 : decode cJ6_bitCount_0f7a4 21 = .ok (.iand, 1) := kq.at kqdJ6_bitCount_0f7a4_0 15 rfl
theorem dJ6_bitCount_0f7a4_22 : decode cJ6_bitCount_0f7a4 22 = .ok (.iadd, 1) := kq.at kqdJ6_bitCount_0f7a4_0 16 rfl
theorem dJ6_bitCount_0f7a4_23 : decode cJ6_bitCount_0f7a4 23 = .ok (.istore_n 0, 1) := kq.at kqdJ6_bitCount_0f7a4_0 17 rfl
theorem dJ6_bitCount_0f7a4_24 : decode cJ6_bitCount_0f7a4 24 = .ok (.iload_n 0, 1) := kq.at kqdJ6_bitCount_0f7a4_0 18 rfl
theorem dJ6_bitCount_0f7a4_25 : decode cJ6_bitCount_0f7a4 25 = .ok (.iload_n 0, 1) := kq.at kqdJ6_bitCount_0f7a4_0 19 rfl
theorem dJ6_bitCount_0f7a4_26 : decode cJ6_bitCount_0f7a4 26 = .ok (.iconst 4, 1) := kq.at kqdJ6_bitCount_0f7a4_0 20 rfl
theorem dJ6_bitCount_0f7a4_27 : decode cJ6_bitCount_0f7a4 27 = .ok (.iushr, 1) := kq.at kqdJ6_bitCount_0f7a4_0 21 rfl
theorem dJ6_bitCount_0f7a4_28 : decode cJ6_bitCount_0f7a4 28 = .ok (.iadd, 1) := kq.at kqdJ6_bitCount_0f7a4_0 22 rfl
theorem dJ6_bitCount_0f7a4_29 : decode cJ6_bitCount_0f7a4 29 = .ok (.ldc_w 267, 3) := kq.at kqdJ6_bitCount_0f7a4_0 23 rfl
theorem kqdJ6_bitCount_0f7a4_32 : kq cJ6_bitCount_0f7a4 [(32, .iand, 1), (33, .istore_n 0, 1), (34, .iload_n 0, 1), (35, .iload_n 0, 1), (36, .bipush 8, 2), (38, .iushr, 1), (39, .iadd, 1), (40, .istore_n 0, 1), (41, .iload_n 0, 1), (42, .iload_n 0, 1), (43, .bipush 16, 2), (45, .iushr, 1), (46, .iadd, 1), (47, .istore_n 0, 1), (48, .iload_n 0, 1), (49, .bipush 63, 2), (51, .iand, 1), (52, .ireturn, 1)] = true := by decide +kernel
theorem dJ6_bitCount_0f7a4_32 : decode cJ6_bitCount_0f7a4 32 = .ok (.iand, 1) := kq.at kqdJ6_bitCount_0f7a4_32 0 rfl
theorem dJ6_bitCount_0f7a4_33 : decode cJ6_bitCount_0f7a4 33 = .ok (.istore_n 0, 1) := kq.at kqdJ6_bitCount_0f7a4_32 1 rfl
theorem dJ6_bitCount_0f7a4_34 : decode cJ6_bitCount_0f7a4 34 = .ok (.iload_n 0, 1) := kq.at kqdJ6_bitCount_0f7a4_32 2 rfl
theorem dJ6_bitCount_0f7a4_35 : decode cJ6_bitCount_0f7a4 35 = .ok (.iload_n 0, 1) := kq.at kqdJ6_bitCount_0f7a4_32 3 rfl
theorem dJ6_bitCount_0f7a4_36 : decode cJ6_bitCount_0f7a4 36 = .ok (.bipush 8, 2) := kq.at kqdJ6_bitCount_0f7a4_32 4 rfl
theorem dJ6_bitCount_0f7a4_38 : decode cJ6_bitCount_0f7a4 38 = .ok (.iushr, 1) := kq.at kqdJ6_bitCount_0f7a4_32 5 rfl
theorem dJ6_bitCount_0f7a4_39 : decode cJ6_bitCount_0f7a4 39 = .ok (.iadd, 1) := kq.at kqdJ6_bitCount_0f7a4_32 6 rfl
theorem dJ6_bitCount_0f7a4_40 : decode cJ6_bitCount_0f7a4 40 = .ok (.istore_n 0, 1) := kq.at kqdJ6_bitCount_0f7a4_32 7 rfl
theorem dJ6_bitCount_0f7a4_41 : decode cJ6_bitCount_0f7a4 41 = .ok (.iload_n 0, 1) := kq.at kqdJ6_bitCount_0f7a4_32 8 rfl
theorem dJ6_bitCount_0f7a4_42 : decode cJ6_bitCount_0f7a4 42 = .ok (.iload_n 0, 1) := kq.at kqdJ6_bitCount_0f7a4_32 9 rfl
theorem dJ6_bitCount_0f7a4_43 : decode cJ6_bitCount_0f7a4 43 = .ok (.bipush 16, 2) := kq.at kqdJ6_bitCount_0f7a4_32 10 rfl
theorem dJ6_bitCount_0f7a4_45 : decode cJ6_bitCount_0f7a4 45 = .ok (.iushr, 1) := kq.at kqdJ6_bitCount_0f7a4_32 11 rfl
theorem dJ6_bitCount_0f7a4_46 : decode cJ6_bitCount_0f7a4 46 = .ok (.iadd, 1) := kq.at kqdJ6_bitCount_0f7a4_32 12 rfl
theorem dJ6_bitCount_0f7a4_47 : decode cJ6_bitCount_0f7a4 47 = .ok (.istore_n 0, 1) := kq.at kqdJ6_bitCount_0f7a4_32 13 rfl
theorem dJ6_bitCount_0f7a4_48 : decode cJ6_bitCount_0f7a4 48 = .ok (.iload_n 0, 1) := kq.at kqdJ6_bitCount_0f7a4_32 14 rfl
theorem dJ6_bitCount_0f7a4_49 : decode cJ6_bitCount_0f7a4 49 = .ok (.bipush 63, 2) := kq.at kqdJ6_bitCount_0f7a4_32 15 rfl
theorem dJ6_bitCount_0f7a4_51 : decode cJ6_bitCount_0f7a4 51 = .ok (.iand, 1) := kq.at kqdJ6_bitCount_0f7a4_32 16 rfl
theorem dJ6_bitCount_0f7a4_52 : decode cJ6_bitCount_0f7a4 52 = .ok (.ireturn, 1) := kq.at kqdJ6_bitCount_0f7a4_32 17 rfl
theorem kqdJ9_max_7cf53_0 : kq cJ9_max_7cf53 [(0, .iload_n 0, 1), (1, .iload_n 1, 1), (2, .if_icmp .lt 7, 3), (5, .iload_n 0, 1), (6, .goto 4, 3), (9, .iload_n 1, 1), (10, .ireturn, 1)] = true := by decide +kernel
theorem dJ9_max_7cf53_0 : decode cJ9_max_7cf53 0 = .ok (.iload_n 0, 1) := kq.at kqdJ9_max_7cf53_0 0 rfl
theorem dJ9_max_7cf53_1 : decode cJ9_max_7cf53 1 = .ok (.iload_n 1, 1) := kq.at kqdJ9_max_7cf53_0 1 rfl
theorem dJ9_max_7cf53_2 : decode cJ9_max_7cf53 2 = .ok (.if_icmp .lt 7, 3) := kq.at kqdJ9_max_7cf53_0 2 rfl
theorem dJ9_max_7cf53_5 : decode cJ9_max_7cf53 5 = .ok (.iload_n 0, 1) := kq.at kqdJ9_max_7cf53_0 3 rfl
theorem dJ9_max_7cf53_6 : decode cJ9_max_7cf53 6 = .ok (.goto 4, 3) := kq.at kqdJ9_max_7cf53_0 4 rfl
theorem dJ9_max_7cf53_9 : decode cJ9_max_7cf53 9 = .ok (.iload_n 1, 1) := kq.at kqdJ9_max_7cf53_0 5 rfl
theorem dJ9_max_7cf53_10 : decode cJ9_max_7cf53 10 = .ok (.ireturn, 1) := kq.at kqdJ9_max_7cf53_0 6 rfl
theorem kqdJ9_min_7cf53_0 : kq cJ9_min_7cf53 [(0, .iload_n 0, 1), (1, .iload_n 1, 1), (2, .if_icmp .gt 7, 3), (5, .iload_n 0, 1), (6, .goto 4, 3), (9, .iload_n 1, 1), (10, .ireturn, 1)] = true := by decide +kernel
theorem dJ9_min_7cf53_0 : decode cJ9_min_7cf53 0 = .ok (.iload_n 0, 1) := kq.at kqdJ9_min_7cf53_0 0 rfl
theorem dJ9_min_7cf53_1 : decode cJ9_min_7cf53 1 = .ok (.iload_n 1, 1) := kq.at kqdJ9_min_7cf53_0 1 rfl
theorem dJ9_min_7cf53_2 : decode cJ9_min_7cf53 2 = .ok (.if_icmp .gt 7, 3) := kq.at kqdJ9_min_7cf53_0 2 rfl
theorem dJ9_min_7cf53_5 : decode cJ9_min_7cf53 5 = .ok (.iload_n 0, 1) := kq.at kqdJ9_min_7cf53_0 3 rfl
theorem dJ9_min_7cf53_6 : decode cJ9_min_7cf53 6 = .ok (.goto 4, 3) := kq.at kqdJ9_min_7cf53_0 4 rfl
theorem dJ9_min_7cf53_9 : decode cJ9_min_7cf53 9 = .ok (.iload_n 1, 1) := kq.at kqdJ9_min_7cf53_0 5 rfl
theorem dJ9_min_7cf53_10 : decode cJ9_min_7cf53 10 = .ok (.ireturn, 1) := kq.at kqdJ9_min_7cf53_0 6 rfl
theorem kqdJ0_length_8abf5_0 : kq cJ0_length_8abf5 [(0, .aload_n 0, 1), (1, .getfield 9, 3), (4, .arraylength, 1), (5, .aload_n 0, 1), (6, .invokevirtual 335, 3), (9, .ishr, 1), (10, .ireturn, 1)] = true := by decide +kernel
theorem dJ0_length_8abf5_0 : decode cJ0_length_8abf5 0 = .ok (.aload_n 0, 1) := kq.at kqdJ0_length_8abf5_0 0 rfl
theorem dJ0_length_8abf5_1 : decode cJ0_length_8abf5 1 = .ok (.getfield 9, 3) := kq.at kqdJ0_length_8abf5_0 1 rfl
theorem dJ0_length_8abf5_4 : decode cJ0_length_8abf5 4 = .ok (.arraylength, 1) := kq.at kqdJ0_length_8abf5_0 2 rfl
theorem dJ0_length_8abf5_5 : decode cJ0_length_8abf5 5 = .ok (.aload_n 0, 1) := kq.at kqdJ0_length_8abf5_0 3 rfl
theorem dJ0_length_8abf5_6 : decode cJ0_length_8abf5 6 = .ok (.invokevirtual 335, 3) := kq.at kqdJ0_length_8abf5_0 4 rfl
theorem dJ0_length_8abf5_9 : decode cJ0_length_8abf5 9 = .ok (.ishr, 1) := kq.at kqdJ0_length_8abf5_0 5 rfl
theorem dJ0_length_8abf5_10 : decode cJ0_length_8abf5 10 = .ok (.ireturn, 1) := kq.at kqdJ0_length_8abf5_0 6 rfl
theorem kqdJ0_charAt_5068e_0 : kq cJ0_charAt_5068e [(0, .aload_n 0, 1), (1, .invokevirtual 492, 3), (4, .ifCond .eq 12, 3), (7, .aload_n 0, 1), (8, .getfield 9, 3), (11, .iload_n 1, 1), (12, .invokestatic 495, 3), (15, .ireturn, 1), (16, .aload_n 0, 1), (17, .getfield 9, 3), (20, .iload_n 1, 1), (21, .invokestatic 498, 3), (24, .ireturn, 1)] = true := by decide +kernel
theorem dJ0_charAt_5068e_0 : decode cJ0_charAt_5068e 0 = .ok (.aload_n 0, 1) := kq.at kqdJ0_charAt_5068e_0 0 rfl
theorem dJ0_charAt_5068e_1 : decode cJ0_charAt_5068e 1 = .ok (.invokevirtual 492, 3) := kq.at kqdJ0_charAt_5068e_0 1 rfl
theorem dJ0_charAt_5068e_4 : decode cJ0_charAt_5068e 4 = .ok (.ifCond .eq 12, 3) := kq.at kqdJ0_charAt_5068e_0 2 rfl
theorem dJ0_charAt_5068e_7 : decode cJ0_charAt_5068e 7 = .ok (.aload_n 0, 1) := kq.at kqdJ0_charAt_5068e_0 3 rfl
theorem dJ0_charAt_5068e_8 : decode cJ0_charAt_5068e 8 = .ok (.getfield 9, 3) := kq.at kqdJ0_charAt_5068e_0 4 rfl
theorem dJ0_charAt_5068e_11 : decode cJ0_charAt_5068e 11 = .ok (.iload_n 1, 1) := kq.at kqdJ0_charAt_5068e_0 5 rfl
theorem dJ0_charAt_5068e_12 : decode cJ0_charAt_5068e 12 = .ok (.invokestatic 495, 3) := kq.at kqdJ0_charAt_5068e_0 6 rfl
theorem dJ0_charAt_5068e_15 : decode cJ0_charAt_5068e 15 = .ok (.ireturn, 1) := kq.at kqdJ0_charAt_5068e_0 7 rfl
theorem dJ0_charAt_5068e_16 : decode cJ0_charAt_5068e 16 = .ok (.aload_n 0, 1) := kq.at kqdJ0_charAt_5068e_0 8 rfl
theorem dJ0_charAt_5068e_17 : decode cJ0_charAt_5068e 17 = .ok (.getfield 9, 3) := kq.at kqdJ0_charAt_5068e_0 9 rfl
theorem dJ0_charAt_5068e_20 : decode cJ0_charAt_5068e 20 = .ok (.iload_n 1, 1) := kq.at kqdJ0_charAt_5068e_0 10 rfl
theorem dJ0_charAt_5068e_21 : decode cJ0_charAt_5068e 21 = .ok (.invokestatic 498, 3) := kq.at kqdJ0_charAt_5068e_0 11 rfl
theorem dJ0_charAt_5068e_24 : decode cJ0_charAt_5068e 24 = .ok (.ireturn, 1) := kq.at kqdJ0_charAt_5068e_0 12 rfl
theorem kqdJ0_coder_7d493_0 : kq cJ0_coder_7d493 [(0, .getstatic 38, 3), (3, .ifCond .eq 10, 3), (6, .aload_n 0, 1), (7, .getfield 15, 3), (10, .goto 4, 3), (13, .iconst 1, 1), (14, .ireturn, 1)] = true := by decide +kernel
theorem dJ0_coder_7d493_0 : decode cJ0_coder_7d493 0 = .ok (.getstatic 38, 3) := kq.at kqdJ0_coder_7d493_0 0 rfl
theorem dJ0_coder_7d493_3 : decode cJ0_coder_7d493 3 = .ok (.ifCond .eq 10, 3) := kq.at kqdJ0_coder_7d493_0 1 rfl
theorem dJ0_coder_7d493_6 : decode cJ0_coder_7d493 6 = .ok (.aload_n 0, 1) := kq.at kqdJ0_coder_7d493_0 2 rfl
theorem dJ0_coder_7d493_7 : decode cJ0_coder_7d493 7 = .ok (.getfield 15, 3) := kq.at kqdJ0_coder_7d493_0 3 rfl
theorem dJ0_coder_7d493_10 : decode cJ0_coder_7d493 10 = .ok (.goto 4, 3) := kq.at kqdJ0_coder_7d493_0 4 rfl
theorem dJ0_coder_7d493_13 : decode cJ0_coder_7d493 13 = .ok (.iconst 1, 1) := kq.at kqdJ0_coder_7d493_0 5 rfl
theorem dJ0_coder_7d493_14 : decode cJ0_coder_7d493 14 = .ok (.ireturn, 1) := kq.at kqdJ0_coder_7d493_0 6 rfl
theorem kqdJ0_isLatin1_aae02_0 : kq cJ0_isLatin1_aae02 [(0, .getstatic 38, 3), (3, .ifCond .eq 14, 3), (6, .aload_n 0, 1), (7, .getfield 15, 3), (10, .ifCond .ne 7, 3), (13, .iconst 1, 1), (14, .goto 4, 3), (17, .iconst 0, 1), (18, .ireturn, 1)] = true := by decide +kernel
theorem dJ0_isLatin1_aae02_0 : decode cJ0_isLatin1_aae02 0 = .ok (.getstatic 38, 3) := kq.at kqdJ0_isLatin1_aae02_0 0 rfl
theorem dJ0_isLatin1_aae02_3 : decode cJ0_isLatin1_aae02 3 = .ok (.ifCond .eq 14, 3) := kq.at kqdJ0_isLatin1_aae02_0 1 rfl
theorem dJ0_isLatin1_aae02_6 : decode cJ0_isLatin1_aae02 6 = .ok (.aload_n 0, 1) := kq.at kqdJ0_isLatin1_aae02_0 2 rfl
theorem dJ0_isLatin1_aae02_7 : decode cJ0_isLatin1_aae02 7 = .ok (.getfield 15, 3) := kq.at kqdJ0_isLatin1_aae02_0 3 rfl
theorem dJ0_isLatin1_aae02_10 : decode cJ0_isLatin1_aae02 10 = .ok (.ifCond .ne 7, 3) := kq.at kqdJ0_isLatin1_aae02_0 4 rfl
theorem dJ0_isLatin1_aae02_13 : decode cJ0_isLatin1_aae02 13 = .ok (.iconst 1, 1) := kq.at kqdJ0_isLatin1_aae02_0 5 rfl
theorem dJ0_isLatin1_aae02_14 : decode cJ0_isLatin1_aae02 14 = .ok (.goto 4, 3) := kq.at kqdJ0_isLatin1_aae02_0 6 rfl
theorem dJ0_isLatin1_aae02_17 : decode cJ0_isLatin1_aae02 17 = .ok (.iconst 0, 1) := kq.at kqdJ0_isLatin1_aae02_0 7 rfl
theorem dJ0_isLatin1_aae02_18 : decode cJ0_isLatin1_aae02 18 = .ok (.ireturn, 1) := kq.at kqdJ0_isLatin1_aae02_0 8 rfl
theorem kqdJ0_checkIndex_df160_0 : kq cJ0_checkIndex_df160 [(0, .iload_n 0, 1), (1, .iload_n 1, 1), (2, .getstatic 1053, 3), (5, .invokestatic 1059, 3), (8, .pop, 1), (9, .return_, 1)] = true := by decide +kernel
theorem dJ0_checkIndex_df160_0 : decode cJ0_checkIndex_df160 0 = .ok (.iload_n 0, 1) := kq.at kqdJ0_checkIndex_df160_0 0 rfl
theorem dJ0_checkIndex_df160_1 : decode cJ0_checkIndex_df160 1 = .ok (.iload_n 1, 1) := kq.at kqdJ0_checkIndex_df160_0 1 rfl
theorem dJ0_checkIndex_df160_2 : decode cJ0_checkIndex_df160 2 = .ok (.getstatic 1053, 3) := kq.at kqdJ0_checkIndex_df160_0 2 rfl
theorem dJ0_checkIndex_df160_5 : decode cJ0_checkIndex_df160 5 = .ok (.invokestatic 1059, 3) := kq.at kqdJ0_checkIndex_df160_0 3 rfl
theorem dJ0_checkIndex_df160_8 : decode cJ0_checkIndex_df160 8 = .ok (.pop, 1) := kq.at kqdJ0_checkIndex_df160_0 4 rfl
theorem dJ0_checkIndex_df160_9 : decode cJ0_checkIndex_df160 9 = .ok (.return_, 1) := kq.at kqdJ0_checkIndex_df160_0 5 rfl
theorem kqdJ1_charAt_3b067_0 : kq cJ1_charAt_3b067 [(0, .iload_n 1, 1), (1, .aload_n 0, 1), (2, .arraylength, 1), (3, .invokestatic 9, 3), (6, .aload_n 0, 1), (7, .iload_n 1, 1), (8, .baload, 1), (9, .sipush 255, 3), (12, .iand, 1), (13, .i2c, 1), (14, .ireturn, 1)] = true := by decide +kernel
theorem dJ1_charAt_3b067_0 : decode cJ1_charAt_3b067 0 = .ok (.iload_n 1, 1) := kq.at kqdJ1_charAt_3b067_0 0 rfl
theorem dJ1_charAt_3b067_1 : decode cJ1_charAt_3b067 1 = .ok (.aload_n 0, 1) := kq.at kqdJ1_charAt_3b067_0 1 rfl
theorem dJ1_charAt_3b067_2 : decode cJ1_charAt_3b067 2 = .ok (.arraylength, 1) := kq.at kqdJ1_charAt_3b067_0 2 rfl
theorem dJ1_charAt_3b067_3 : decode cJ1_charAt_3b067 3 = .ok (.invokestatic 9, 3) := kq.at kqdJ1_charAt_3b067_0 3 rfl
theorem dJ1_charAt_3b067_6 : decode cJ1_charAt_3b067 6 = .ok (.aload_n 0, 1) := kq.at kqdJ1_charAt_3b067_0 4 rfl
theorem dJ1_charAt_3b067_7 : decode cJ1_charAt_3b067 7 = .ok (.iload_n 1, 1) := kq.at kqdJ1_charAt_3b067_0 5 rfl
theorem dJ1_charAt_3b067_8 : decode cJ1_charAt_3b067 8 = .ok (.baload, 1) := kq.at kqdJ1_charAt_3b067_0 6 rfl
theorem dJ1_charAt_3b067_9 : decode cJ1_charAt_3b067 9 = .ok (.sipush 255, 3) := kq.at kqdJ1_charAt_3b067_0 7 rfl
theorem dJ1_charAt_3b067_12 : decode cJ1_charAt_3b067 12 = .ok (.iand, 1) := kq.at kqdJ1_charAt_3b067_0 8 rfl
theorem dJ1_charAt_3b067_13 : decode cJ1_charAt_3b067 13 = .ok (.i2c, 1) := kq.at kqdJ1_charAt_3b067_0 9 rfl
theorem dJ1_charAt_3b067_14 : decode cJ1_charAt_3b067 14 = .ok (.ireturn, 1) := kq.at kqdJ1_charAt_3b067_0 10 rfl
theorem kqdJ2_getChar_3b067_0 : kq cJ2_getChar_3b067 [(0, .getstatic 44, 3), (3, .ifCond .ne 25, 3), (6, .iload_n 1, 1), (7, .ifCond .lt 11, 3), (10, .iload_n 1, 1), (11, .aload_n 0, 1), (12, .invokestatic 48, 3), (15, .if_icmp .lt 13, 3), (18, .new 52, 3), (21, .dup, 1), (22, .ldc 54, 2), (24, .invokespecial 56, 3), (27, .athrow, 1), (28, .iload_n 1, 1), (29, .iconst 1, 1), (30, .ishl, 1), (31, .istore_n 1, 1), (32, .aload_n 0, 1), (33, .iload_n 1, 1), (34, .iinc 1 1, 3), (37, .baload, 1), (38, .sipush 255, 3), (41, .iand, 1), (42, .getstatic 59, 3)] = true := by decide +kernel
theorem dJ2_getChar_3b067_0 : decode cJ2_getChar_3b067 0 = .ok (.getstatic 44, 3) := kq.at kqdJ2_getChar_3b067_0 0 rfl
theorem dJ2_getChar_3b067_3 : decode cJ2_getChar_3b067 3 = .ok (.ifCond .ne 25, 3) := kq.at kqdJ2_getChar_3b067_0 1 rfl
theorem dJ2_getChar_3b067_6 : decode cJ2_getChar_3b067 6 = .ok (.iload_n 1, 1) := kq.at kqdJ2_getChar_3b067_0 2 rfl
theorem dJ2_getChar_3b067_7 : decode cJ2_getChar_3b067 7 = .ok (.ifCond .lt 11, 3) := kq.at kqdJ2_getChar_3b067_0 3 rfl
theorem dJ2_getChar_3b067_10 : decode cJ2_getChar_3b067 10 = .ok (.iload_n 1, 1) := kq.at kqdJ2_getChar_3b067_0 4 rfl
theorem dJ2_getChar_3b067_11 : decode cJ2_getChar_3b067 11 = .ok (.aload_n 0, 1) := kq.at kqdJ2_getChar_3b067_0 5 rfl
theorem dJ2_getChar_3b067_12 : decode cJ2_getChar_3b067 12 = .ok (.invokestatic 48, 3) := kq.at kqdJ2_getChar_3b067_0 6 rfl
theorem dJ2_getChar_3b067_15 : decode cJ2_getChar_3b067 15 = .ok (.if_icmp .lt 13, 3) := kq.at kqdJ2_getChar_3b067_0 7 rfl
theorem dJ2_getChar_3b067_18 : decode cJ2_getChar_3b067 18 = .ok (.new 52, 3) := kq.at kqdJ2_getChar_3b067_0 8 rfl
theorem dJ2_getChar_3b067_21 : decode cJ2_getChar_3b067 21 = .ok (.dup, 1) := kq.at kqdJ2_getChar_3b067_0 9 rfl
theorem dJ2_getChar_3b067_22 : decode cJ2_getChar_3b067 22 = .ok (.ldc 54, 2) := kq.at kqdJ2_getChar_3b067_0 10 rfl
theorem dJ2_getChar_3b067_24 : decode cJ2_getChar_3b067 24 = .ok (.invokespecial 56, 3) := kq.at kqdJ2_getChar_3b067_0 11 rfl
theorem dJ2_getChar_3b067_27 : decode cJ2_getChar_3b067 27 = .ok (.athrow, 1) := kq.at kqdJ2_getChar_3b067_0 12 rfl
theorem dJ2_getChar_3b067_28 : decode cJ2_getChar_3b067 28 = .ok (.iload_n 1, 1) := kq.at kqdJ2_getChar_3b067_0 13 rfl
theorem dJ2_getChar_3b067_29 : decode cJ2_getChar_3b067 29 = .ok (.iconst 1, 1) := kq.at kqdJ2_getChar_3b067_0 14 rfl
theorem dJ2_getChar_3b067_30 : decode cJ2_getChar_3b067 30 = .ok (.ishl, 1) := kq.at kqdJ2_getChar_3b067_0 15 rfl
theorem dJ2_getChar_3b067_31 : decode cJ2_getChar_3b067 31 = .ok (.istore_n 1, 1) := kq.at kqdJ2_getChar_3b067_0 16 rfl
theorem dJ2_getChar_3b067_32 : decode cJ2_getChar_3b067 32 = .ok (.aload_n 0, 1) := kq.at kqdJ2_getChar_3b067_0 17 rfl
theorem dJ2_getChar_3b067_33 : decode cJ2_getChar_3b067 33 = .ok (.iload_n 1, 1) := kq.at kqdJ2_getChar_3b067_0 18 rfl
theorem dJ2_getChar_3b067_34 : decode cJ2_getChar_3b067 34 = .ok (.iinc 1 1, 3) := kq.at kqdJ2_getChar_3b067_0 19 rfl
theorem dJ2_getChar_3b067_37 : decode cJ2_getChar_3b067 37 = .ok (.baload, 1) := kq.at kqdJ2_getChar_3b067_0 20 rfl
theorem dJ2_getChar_3b067_38 : decode cJ2_getChar_3b067 38 = .ok (.sipush 255, 3) := kq.at kqdJ2_getChar_3b067_0 21 rfl
theorem dJ2_getChar_3b067_41 : decode cJ2_getChar_3b067 41 = .ok (.iand, 1) := kq.at kqdJ2_getChar_3b067_0 22 rfl
theorem dJ2_getChar_3b067_42 : decode cJ2_getChar_3b067 42 = .ok (.getstatic 59, 3) := kq.at kqdJ2_getChar_3b067_0 23 rfl
theorem kqdJ2_getChar_3b067_45 : kq cJ2_getChar_3b067 [(45, .ishl, 1), (46, .aload_n 0, 1), (47, .iload_n 1, 1), (48, .baload, 1), (49, .sipush 255, 3), (52, .iand, 1), (53, .getstatic 63, 3), (56, .ishl, 1), (57, .ior, 1), (58, .i2c, 1), (59, .ireturn, 1)] = true := by decide +kernel
theorem dJ2_getChar_3b067_45 : decode cJ2_getChar_3b067 45 = .ok (.ishl, 1) := kq.at kqdJ2_getChar_3b067_45 0 rfl
theorem dJ2_getChar_3b067_46 : decode cJ2_getChar_3b067 46 = .ok (.aload_n 0, 1) := kq.at kqdJ2_getChar_3b067_45 1 rfl
theorem dJ2_getChar_3b067_47 : decode cJ2_getChar_3b067 47 = .ok (.iload_n 1, 1) := kq.at kqdJ2_getChar_3b067_45 2 rfl
theorem dJ2_getChar_3b067_48 : decode cJ2_getChar_3b067 48 = .ok (.baload, 1) := kq.at kqdJ2_getChar_3b067_45 3 rfl
theorem dJ2_getChar_3b067_49 : decode cJ2_getChar_3b067 49 = .ok (.sipush 255, 3) := kq.at kqdJ2_getChar_3b067_45 4 rfl
theorem dJ2_getChar_3b067_52 : decode cJ2_getChar_3b067 52 = .ok (.iand, 1) := kq.at kqdJ2_getChar_3b067_45 5 rfl
theorem dJ2_getChar_3b067_53 : decode cJ2_getChar_3b067 53 = .ok (.getstatic 63, 3) := kq.at kqdJ2_getChar_3b067_45 6 rfl
theorem dJ2_getChar_3b067_56 : decode cJ2_getChar_3b067 56 = .ok (.ishl, 1) := kq.at kqdJ2_getChar_3b067_45 7 rfl
theorem dJ2_getChar_3b067_57 : decode cJ2_getChar_3b067 57 = .ok (.ior, 1) := kq.at kqdJ2_getChar_3b067_45 8 rfl
theorem dJ2_getChar_3b067_58 : decode cJ2_getChar_3b067 58 = .ok (.i2c, 1) := kq.at kqdJ2_getChar_3b067_45 9 rfl
theorem dJ2_getChar_3b067_59 : decode cJ2_getChar_3b067 59 = .ok (.ireturn, 1) := kq.at kqdJ2_getChar_3b067_45 10 rfl
theorem kqdJ2_length_9d52b_0 : kq cJ2_length_9d52b [(0, .aload_n 0, 1), (1, .arraylength, 1), (2, .iconst 1, 1), (3, .ishr, 1), (4, .ireturn, 1)] = true := by decide +kernel
theorem dJ2_length_9d52b_0 : decode cJ2_length_9d52b 0 = .ok (.aload_n 0, 1) := kq.at kqdJ2_length_9d52b_0 0 rfl
theorem dJ2_length_9d52b_1 : decode cJ2_length_9d52b 1 = .ok (.arraylength, 1) := kq.at kqdJ2_length_9d52b_0 1 rfl
theorem dJ2_length_9d52b_2 : decode cJ2_length_9d52b 2 = .ok (.iconst 1, 1) := kq.at kqdJ2_length_9d52b_0 2 rfl
theorem dJ2_length_9d52b_3 : decode cJ2_length_9d52b 3 = .ok (.ishr, 1) := kq.at kqdJ2_length_9d52b_0 3 rfl
theorem dJ2_length_9d52b_4 : decode cJ2_length_9d52b 4 = .ok (.ireturn, 1) := kq.at kqdJ2_length_9d52b_0 4 rfl
theorem kqdJ2_charAt_3b067_0 : kq cJ2_charAt_3b067 [(0, .iload_n 1, 1), (1, .aload_n 0, 1), (2, .invokestatic 67, 3), (5, .aload_n 0, 1), (6, .iload_n 1, 1), (7, .invokestatic 71, 3), (10, .ireturn, 1)] = true := by decide +kernel
theorem dJ2_charAt_3b067_0 : decode cJ2_charAt_3b067 0 = .ok (.iload_n 1, 1) := kq.at kqdJ2_charAt_3b067_0 0 rfl
theorem dJ2_charAt_3b067_1 : decode cJ2_charAt_3b067 1 = .ok (.aload_n 0, 1) := kq.at kqdJ2_charAt_3b067_0 1 rfl
theorem dJ2_charAt_3b067_2 : decode cJ2_charAt_3b067 2 = .ok (.invokestatic 67, 3) := kq.at kqdJ2_charAt_3b067_0 2 rfl
theorem dJ2_charAt_3b067_5 : decode cJ2_charAt_3b067 5 = .ok (.aload_n 0, 1) := kq.at kqdJ2_charAt_3b067_0 3 rfl
theorem dJ2_charAt_3b067_6 : decode cJ2_charAt_3b067 6 = .ok (.iload_n 1, 1) := kq.at kqdJ2_charAt_3b067_0 4 rfl
theorem dJ2_charAt_3b067_7 : decode cJ2_charAt_3b067 7 = .ok (.invokestatic 71, 3) := kq.at kqdJ2_charAt_3b067_0 5 rfl
theorem dJ2_charAt_3b067_10 : decode cJ2_charAt_3b067 10 = .ok (.ireturn, 1) := kq.at kqdJ2_charAt_3b067_0 6 rfl
theorem kqdJ2_checkIndex_2214a_0 : kq cJ2_checkIndex_2214a [(0, .iload_n 0, 1), (1, .aload_n 1, 1), (2, .invokestatic 48, 3), (5, .invokestatic 414, 3), (8, .return_, 1)] = true := by decide +kernel
theorem dJ2_checkIndex_2214a_0 : decode cJ2_checkIndex_2214a 0 = .ok (.iload_n 0, 1) := kq.at kqdJ2_checkIndex_2214a_0 0 rfl
theorem dJ2_checkIndex_2214a_1 : decode cJ2_checkIndex_2214a 1 = .ok (.aload_n 1, 1) := kq.at kqdJ2_checkIndex_2214a_0 1 rfl
theorem dJ2_checkIndex_2214a_2 : decode cJ2_checkIndex_2214a 2 = .ok (.invokestatic 48, 3) := kq.at kqdJ2_checkIndex_2214a_0 2 rfl
theorem dJ2_checkIndex_2214a_5 : decode cJ2_checkIndex_2214a 5 = .ok (.invokestatic 414, 3) := kq.at kqdJ2_checkIndex_2214a_0 3 rfl
theorem dJ2_checkIndex_2214a_8 : decode cJ2_checkIndex_2214a 8 = .ok (.return_, 1) := kq.at kqdJ2_checkIndex_2214a_0 4 rfl
theorem kqdJ3_checkIndex_8e157_0 : kq cJ3_checkIndex_8e157 [(0, .iload_n 0, 1), (1, .ifCond .lt 8, 3), (4, .iload_n 0, 1), (5, .iload_n 1, 1), (6, .if_icmp .lt 10, 3), (9, .aload_n 2, 1), (10, .iload_n 0, 1), (11, .iload_n 1, 1), (12, .invokestatic 95, 3), (15, .athrow, 1), (16, .iload_n 0, 1), (17, .ireturn, 1)] = true := by decide +kernel
theorem dJ3_checkIndex_8e157_0 : decode cJ3_checkIndex_8e157 0 = .ok (.iload_n 0, 1) := kq.at kqdJ3_checkIndex_8e157_0 0 rfl
theorem dJ3_checkIndex_8e157_1 : decode cJ3_checkIndex_8e157 1 = .ok (.ifCond .lt 8, 3) := kq.at kqdJ3_checkIndex_8e157_0 1 rfl
theorem dJ3_checkIndex_8e157_4 : decode cJ3_checkIndex_8e157 4 = .ok (.iload_n 0, 1) := kq.at kqdJ3_checkIndex_8e157_0 2 rfl
theorem dJ3_checkIndex_8e157_5 : decode cJ3_checkIndex_8e157 5 = .ok (.iload_n 1, 1) := kq.at kqdJ3_checkIndex_8e157_0 3 rfl
theorem dJ3_checkIndex_8e157_6 : decode cJ3_checkIndex_8e157 6 = .ok (.if_icmp .lt 10, 3) := kq.at kqdJ3_checkIndex_8e157_0 4 rfl
theorem dJ3_checkIndex_8e157_9 : decode cJ3_checkIndex_8e157 9 = .ok (.aload_n 2, 1) := kq.at kqdJ3_checkIndex_8e157_0 5 rfl
theorem dJ3_checkIndex_8e157_10 : decode cJ3_checkIndex_8e157 10 = .ok (.iload_n 0, 1) := kq.at kqdJ3_checkIndex_8e157_0 6 rfl
theorem dJ3_checkIndex_8e157_11 : decode cJ3_checkIndex_8e157 11 = .ok (.iload_n 1, 1) := kq.at kqdJ3_checkIndex_8e157_0 7 rfl
theorem dJ3_checkIndex_8e157_12 : decode cJ3_checkIndex_8e157 12 = .ok (.invokestatic 95, 3) := kq.at kqdJ3_checkIndex_8e157_0 8 rfl
theorem dJ3_checkIndex_8e157_15 : decode cJ3_checkIndex_8e157 15 = .ok (.athrow, 1) := kq.at kqdJ3_checkIndex_8e157_0 9 rfl
theorem dJ3_checkIndex_8e157_16 : decode cJ3_checkIndex_8e157 16 = .ok (.iload_n 0, 1) := kq.at kqdJ3_checkIndex_8e157_0 10 rfl
theorem dJ3_checkIndex_8e157_17 : decode cJ3_checkIndex_8e157 17 = .ok (.ireturn, 1) := kq.at kqdJ3_checkIndex_8e157_0 11 rfl
