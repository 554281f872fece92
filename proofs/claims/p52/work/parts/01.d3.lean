theorem kqdX11_byteOf_20 : kq cX11_byteOf [(20, .iadd, 1), (21, .iaload, 1), (22, .goto 5, 3), (25, .bipush 32, 2), (27, .ireturn, 1)] = true := by decide +kernel
theorem dX11_byteOf_20 : decode cX11_byteOf 20 = .ok (.iadd, 1) := kq.at kqdX11_byteOf_20 0 rfl
theorem dX11_byteOf_21 : decode cX11_byteOf 21 = .ok (.iaload, 1) := kq.at kqdX11_byteOf_20 1 rfl
theorem dX11_byteOf_22 : decode cX11_byteOf 22 = .ok (.goto 5, 3) := kq.at kqdX11_byteOf_20 2 rfl
theorem dX11_byteOf_25 : decode cX11_byteOf 25 = .ok (.bipush 32, 2) := kq.at kqdX11_byteOf_20 3 rfl
theorem dX11_byteOf_27 : decode cX11_byteOf 27 = .ok (.ireturn, 1) := kq.at kqdX11_byteOf_20 4 rfl
theorem kqdX11_isBlank_0 : kq cX11_isBlank [(0, .iload_n 0, 1), (1, .bipush 10, 2), (3, .if_icmp .eq 9, 3), (6, .iload_n 0, 1), (7, .bipush 32, 2), (9, .if_icmp .ne 7, 3), (12, .iconst 1, 1), (13, .goto 4, 3), (16, .iconst 0, 1), (17, .ireturn, 1)] = true := by decide +kernel
theorem dX11_isBlank_0 : decode cX11_isBlank 0 = .ok (.iload_n 0, 1) := kq.at kqdX11_isBlank_0 0 rfl
theorem dX11_isBlank_1 : decode cX11_isBlank 1 = .ok (.bipush 10, 2) := kq.at kqdX11_isBlank_0 1 rfl
theorem dX11_isBlank_3 : decode cX11_isBlank 3 = .ok (.if_icmp .eq 9, 3) := kq.at kqdX11_isBlank_0 2 rfl
theorem dX11_isBlank_6 : decode cX11_isBlank 6 = .ok (.iload_n 0, 1) := kq.at kqdX11_isBlank_0 3 rfl
theorem dX11_isBlank_7 : decode cX11_isBlank 7 = .ok (.bipush 32, 2) := kq.at kqdX11_isBlank_0 4 rfl
theorem dX11_isBlank_9 : decode cX11_isBlank 9 = .ok (.if_icmp .ne 7, 3) := kq.at kqdX11_isBlank_0 5 rfl
theorem dX11_isBlank_12 : decode cX11_isBlank 12 = .ok (.iconst 1, 1) := kq.at kqdX11_isBlank_0 6 rfl
theorem dX11_isBlank_13 : decode cX11_isBlank 13 = .ok (.goto 4, 3) := kq.at kqdX11_isBlank_0 7 rfl
theorem dX11_isBlank_16 : decode cX11_isBlank 16 = .ok (.iconst 0, 1) := kq.at kqdX11_isBlank_0 8 rfl
theorem dX11_isBlank_17 : decode cX11_isBlank 17 = .ok (.ireturn, 1) := kq.at kqdX11_isBlank_0 9 rfl
theorem kqdX11_isGreat_0 : kq cX11_isGreat [(0, .iload_n 0, 1), (1, .bipush 65, 2), (3, .if_icmp .lt 13, 3), (6, .iload_n 0, 1), (7, .bipush 90, 2), (9, .if_icmp .gt 7, 3), (12, .iconst 1, 1), (13, .goto 4, 3), (16, .iconst 0, 1), (17, .ireturn, 1)] = true := by decide +kernel
theorem dX11_isGreat_0 : decode cX11_isGreat 0 = .ok (.iload_n 0, 1) := kq.at kqdX11_isGreat_0 0 rfl
theorem dX11_isGreat_1 : decode cX11_isGreat 1 = .ok (.bipush 65, 2) := kq.at kqdX11_isGreat_0 1 rfl
theorem dX11_isGreat_3 : decode cX11_isGreat 3 = .ok (.if_icmp .lt 13, 3) := kq.at kqdX11_isGreat_0 2 rfl
theorem dX11_isGreat_6 : decode cX11_isGreat 6 = .ok (.iload_n 0, 1) := kq.at kqdX11_isGreat_0 3 rfl
theorem dX11_isGreat_7 : decode cX11_isGreat 7 = .ok (.bipush 90, 2) := kq.at kqdX11_isGreat_0 4 rfl
theorem dX11_isGreat_9 : decode cX11_isGreat 9 = .ok (.if_icmp .gt 7, 3) := kq.at kqdX11_isGreat_0 5 rfl
theorem dX11_isGreat_12 : decode cX11_isGreat 12 = .ok (.iconst 1, 1) := kq.at kqdX11_isGreat_0 6 rfl
theorem dX11_isGreat_13 : decode cX11_isGreat 13 = .ok (.goto 4, 3) := kq.at kqdX11_isGreat_0 7 rfl
theorem dX11_isGreat_16 : decode cX11_isGreat 16 = .ok (.iconst 0, 1) := kq.at kqdX11_isGreat_0 8 rfl
theorem dX11_isGreat_17 : decode cX11_isGreat 17 = .ok (.ireturn, 1) := kq.at kqdX11_isGreat_0 9 rfl
theorem kqdX11_isLetter_0 : kq cX11_isLetter [(0, .iload_n 0, 1), (1, .invokestatic 236, 3), (4, .ifCond .ne 15, 3), (7, .iload_n 0, 1), (8, .bipush 97, 2), (10, .if_icmp .lt 13, 3), (13, .iload_n 0, 1), (14, .bipush 122, 2), (16, .if_icmp .gt 7, 3), (19, .iconst 1, 1), (20, .goto 4, 3), (23, .iconst 0, 1), (24, .ireturn, 1)] = true := by decide +kernel
theorem dX11_isLetter_0 : decode cX11_isLetter 0 = .ok (.iload_n 0, 1) := kq.at kqdX11_isLetter_0 0 rfl
theorem dX11_isLetter_1 : decode cX11_isLetter 1 = .ok (.invokestatic 236, 3) := kq.at kqdX11_isLetter_0 1 rfl
theorem dX11_isLetter_4 : decode cX11_isLetter 4 = .ok (.ifCond .ne 15, 3) := kq.at kqdX11_isLetter_0 2 rfl
theorem dX11_isLetter_7 : decode cX11_isLetter 7 = .ok (.iload_n 0, 1) := kq.at kqdX11_isLetter_0 3 rfl
theorem dX11_isLetter_8 : decode cX11_isLetter 8 = .ok (.bipush 97, 2) := kq.at kqdX11_isLetter_0 4 rfl
theorem dX11_isLetter_10 : decode cX11_isLetter 10 = .ok (.if_icmp .lt 13, 3) := kq.at kqdX11_isLetter_0 5 rfl
theorem dX11_isLetter_13 : decode cX11_isLetter 13 = .ok (.iload_n 0, 1) := kq.at kqdX11_isLetter_0 6 rfl
theorem dX11_isLetter_14 : decode cX11_isLetter 14 = .ok (.bipush 122, 2) := kq.at kqdX11_isLetter_0 7 rfl
theorem dX11_isLetter_16 : decode cX11_isLetter 16 = .ok (.if_icmp .gt 7, 3) := kq.at kqdX11_isLetter_0 8 rfl
theorem dX11_isLetter_19 : decode cX11_isLetter 19 = .ok (.iconst 1, 1) := kq.at kqdX11_isLetter_0 9 rfl
theorem dX11_isLetter_20 : decode cX11_isLetter 20 = .ok (.goto 4, 3) := kq.at kqdX11_isLetter_0 10 rfl
theorem dX11_isLetter_23 : decode cX11_isLetter 23 = .ok (.iconst 0, 1) := kq.at kqdX11_isLetter_0 11 rfl
theorem dX11_isLetter_24 : decode cX11_isLetter 24 = .ok (.ireturn, 1) := kq.at kqdX11_isLetter_0 12 rfl
theorem kqdX11_isDigit0_0 : kq cX11_isDigit0 [(0, .iload_n 0, 1), (1, .bipush 48, 2), (3, .if_icmp .lt 13, 3), (6, .iload_n 0, 1), (7, .bipush 57, 2), (9, .if_icmp .gt 7, 3), (12, .iconst 1, 1), (13, .goto 4, 3), (16, .iconst 0, 1), (17, .ireturn, 1)] = true := by decide +kernel
theorem dX11_isDigit0_0 : decode cX11_isDigit0 0 = .ok (.iload_n 0, 1) := kq.at kqdX11_isDigit0_0 0 rfl
theorem dX11_isDigit0_1 : decode cX11_isDigit0 1 = .ok (.bipush 48, 2) := kq.at kqdX11_isDigit0_0 1 rfl
theorem dX11_isDigit0_3 : decode cX11_isDigit0 3 = .ok (.if_icmp .lt 13, 3) := kq.at kqdX11_isDigit0_0 2 rfl
theorem dX11_isDigit0_6 : decode cX11_isDigit0 6 = .ok (.iload_n 0, 1) := kq.at kqdX11_isDigit0_0 3 rfl
theorem dX11_isDigit0_7 : decode cX11_isDigit0 7 = .ok (.bipush 57, 2) := kq.at kqdX11_isDigit0_0 4 rfl
theorem dX11_isDigit0_9 : decode cX11_isDigit0 9 = .ok (.if_icmp .gt 7, 3) := kq.at kqdX11_isDigit0_0 5 rfl
theorem dX11_isDigit0_12 : decode cX11_isDigit0 12 = .ok (.iconst 1, 1) := kq.at kqdX11_isDigit0_0 6 rfl
theorem dX11_isDigit0_13 : decode cX11_isDigit0 13 = .ok (.goto 4, 3) := kq.at kqdX11_isDigit0_0 7 rfl
theorem dX11_isDigit0_16 : decode cX11_isDigit0 16 = .ok (.iconst 0, 1) := kq.at kqdX11_isDigit0_0 8 rfl
theorem dX11_isDigit0_17 : decode cX11_isDigit0 17 = .ok (.ireturn, 1) := kq.at kqdX11_isDigit0_0 9 rfl
theorem kqdX11_letterOf_0 : kq cX11_letterOf [(0, .iload_n 0, 1), (1, .invokestatic 236, 3), (4, .ifCond .eq 12, 3), (7, .iload_n 0, 1), (8, .bipush 65, 2), (10, .isub, 1), (11, .iconst 1, 1), (12, .iadd, 1), (13, .goto 9, 3), (16, .iload_n 0, 1), (17, .bipush 97, 2), (19, .isub, 1), (20, .iconst 1, 1), (21, .iadd, 1), (22, .ireturn, 1)] = true := by decide +kernel
theorem dX11_letterOf_0 : decode cX11_letterOf 0 = .ok (.iload_n 0, 1) := kq.at kqdX11_letterOf_0 0 rfl
theorem dX11_letterOf_1 : decode cX11_letterOf 1 = .ok (.invokestatic 236, 3) := kq.at kqdX11_letterOf_0 1 rfl
theorem dX11_letterOf_4 : decode cX11_letterOf 4 = .ok (.ifCond .eq 12, 3) := kq.at kqdX11_letterOf_0 2 rfl
theorem dX11_letterOf_7 : decode cX11_letterOf 7 = .ok (.iload_n 0, 1) := kq.at kqdX11_letterOf_0 3 rfl
theorem dX11_letterOf_8 : decode cX11_letterOf 8 = .ok (.bipush 65, 2) := kq.at kqdX11_letterOf_0 4 rfl
theorem dX11_letterOf_10 : decode cX11_letterOf 10 = .ok (.isub, 1) := kq.at kqdX11_letterOf_0 5 rfl
theorem dX11_letterOf_11 : decode cX11_letterOf 11 = .ok (.iconst 1, 1) := kq.at kqdX11_letterOf_0 6 rfl
theorem dX11_letterOf_12 : decode cX11_letterOf 12 = .ok (.iadd, 1) := kq.at kqdX11_letterOf_0 7 rfl
theorem dX11_letterOf_13 : decode cX11_letterOf 13 = .ok (.goto 9, 3) := kq.at kqdX11_letterOf_0 8 rfl
theorem dX11_letterOf_16 : decode cX11_letterOf 16 = .ok (.iload_n 0, 1) := kq.at kqdX11_letterOf_0 9 rfl
theorem dX11_letterOf_17 : decode cX11_letterOf 17 = .ok (.bipush 97, 2) := kq.at kqdX11_letterOf_0 10 rfl
theorem dX11_letterOf_19 : decode cX11_letterOf 19 = .ok (.isub, 1) := kq.at kqdX11_letterOf_0 11 rfl
theorem dX11_letterOf_20 : decode cX11_letterOf 20 = .ok (.iconst 1, 1) := kq.at kqdX11_letterOf_0 12 rfl
theorem dX11_letterOf_21 : decode cX11_letterOf 21 = .ok (.iadd, 1) := kq.at kqdX11_letterOf_0 13 rfl
theorem dX11_letterOf_22 : decode cX11_letterOf 22 = .ok (.ireturn, 1) := kq.at kqdX11_letterOf_0 14 rfl
theorem kqdX11_holds_0 : kq cX11_holds [(0, .iload_n 0, 1), (1, .ifCond .eq 36, 3), (4, .iload_n 0, 1), (5, .iload_n 1, 1), (6, .ifCond .eq 11, 3), (9, .iload_n 2, 1), (10, .ifCond .eq 7, 3), (13, .iconst 4, 1), (14, .goto 20, 3), (17, .iload_n 1, 1), (18, .ifCond .eq 7, 3), (21, .iconst 1, 1), (22, .goto 12, 3), (25, .iload_n 2, 1), (26, .ifCond .eq 7, 3), (29, .iconst 3, 1), (30, .goto 4, 3), (33, .iconst 2, 1), (34, .if_icmp .ne 7, 3), (37, .iconst 1, 1), (38, .goto 4, 3), (41, .iconst 0, 1), (42, .ireturn, 1)] = true := by decide +kernel
theorem dX11_holds_0 : decode cX11_holds 0 = .ok (.iload_n 0, 1) := kq.at kqdX11_holds_0 0 rfl
theorem dX11_holds_1 : decode cX11_holds 1 = .ok (.ifCond .eq 36, 3) := kq.at kqdX11_holds_0 1 rfl
theorem dX11_holds_4 : decode cX11_holds 4 = .ok (.iload_n 0, 1) := kq.at kqdX11_holds_0 2 rfl
theorem dX11_holds_5 : decode cX11_holds 5 = .ok (.iload_n 1, 1) := kq.at kqdX11_holds_0 3 rfl
theorem dX11_holds_6 : decode cX11_holds 6 = .ok (.ifCond .eq 11, 3) := kq.at kqdX11_holds_0 4 rfl
theorem dX11_holds_9 : decode cX11_holds 9 = .ok (.iload_n 2, 1) := kq.at kqdX11_holds_0 5 rfl
theorem dX11_holds_10 : decode cX11_holds 10 = .ok (.ifCond .eq 7, 3) := kq.at kqdX11_holds_0 6 rfl
theorem dX11_holds_13 : decode cX11_holds 13 = .ok (.iconst 4, 1) := kq.at kqdX11_holds_0 7 rfl
theorem dX11_holds_14 : decode cX11_holds 14 = .ok (.goto 20, 3) := kq.at kqdX11_holds_0 8 rfl
theorem dX11_holds_17 : decode cX11_holds 17 = .ok (.iload_n 1, 1) := kq.at kqdX11_holds_0 9 rfl
theorem dX11_holds_18 : decode cX11_holds 18 = .ok (.ifCond .eq 7, 3) := kq.at kqdX11_holds_0 10 rfl
theorem dX11_holds_21 : decode cX11_holds 21 = .ok (.iconst 1, 1) := kq.at kqdX11_holds_0 11 rfl
theorem dX11_holds_22 : decode cX11_holds 22 = .ok (.goto 12, 3) := kq.at kqdX11_holds_0 12 rfl
theorem dX11_holds_25 : decode cX11_holds 25 = .ok (.iload_n 2, 1) := kq.at kqdX11_holds_0 13 rfl
theorem dX11_holds_26 : decode cX11_holds 26 = .ok (.ifCond .eq 7, 3) := kq.at kqdX11_holds_0 14 rfl
theorem dX11_holds_29 : decode cX11_holds 29 = .ok (.iconst 3, 1) := kq.at kqdX11_holds_0 15 rfl
theorem dX11_holds_30 : decode cX11_holds 30 = .ok (.goto 4, 3) := kq.at kqdX11_holds_0 16 rfl
theorem dX11_holds_33 : decode cX11_holds 33 = .ok (.iconst 2, 1) := kq.at kqdX11_holds_0 17 rfl
theorem dX11_holds_34 : decode cX11_holds 34 = .ok (.if_icmp .ne 7, 3) := kq.at kqdX11_holds_0 18 rfl
theorem dX11_holds_37 : decode cX11_holds 37 = .ok (.iconst 1, 1) := kq.at kqdX11_holds_0 19 rfl
theorem dX11_holds_38 : decode cX11_holds 38 = .ok (.goto 4, 3) := kq.at kqdX11_holds_0 20 rfl
theorem dX11_holds_41 : decode cX11_holds 41 = .ok (.iconst 0, 1) := kq.at kqdX11_holds_0 21 rfl
theorem dX11_holds_42 : decode cX11_holds 42 = .ok (.ireturn, 1) := kq.at kqdX11_holds_0 22 rfl
theorem kqdX11_stands_0 : kq cX11_stands [(0, .iconst 0, 1), (1, .iload_n 1, 1), (2, .invokestatic 194, 3), (5, .istore 5, 2), (7, .iload_n 2, 1), (8, .aload_n 0, 1), (9, .getfield 7, 3), (12, .iload 5, 2), (14, .iaload, 1), (15, .iadd, 1), (16, .iload 4, 2), (18, .if_icmp .le 5, 3), (21, .iconst 0, 1), (22, .ireturn, 1), (23, .iconst 0, 1), (24, .istore 6, 2), (26, .iload 6, 2), (28, .aload_n 0, 1), (29, .getfield 7, 3), (32, .iload 5, 2), (34, .iaload, 1), (35, .if_icmp .ge 56, 3), (38, .aload_n 0, 1), (39, .iload_n 2, 1)] = true := by decide +kernel
theorem dX11_stands_0 : decode cX11_stands 0 = .ok (.iconst 0, 1) := kq.at kqdX11_stands_0 0 rfl
theorem dX11_stands_1 : decode cX11_stands 1 = .ok (.iload_n 1, 1) := kq.at kqdX11_stands_0 1 rfl
theorem dX11_stands_2 : decode cX11_stands 2 = .ok (.invokestatic 194, 3) := kq.at kqdX11_stands_0 2 rfl
theorem dX11_stands_5 : decode cX11_stands 5 = .ok (.istore 5, 2) := kq.at kqdX11_stands_0 3 rfl
theorem dX11_stands_7 : decode cX11_stands 7 = .ok (.iload_n 2, 1) := kq.at kqdX11_stands_0 4 rfl
theorem dX11_stands_8 : decode cX11_stands 8 = .ok (.aload_n 0, 1) := kq.at kqdX11_stands_0 5 rfl
theorem dX11_stands_9 : decode cX11_stands 9 = .ok (.getfield 7, 3) := kq.at kqdX11_stands_0 6 rfl
theorem dX11_stands_12 : decode cX11_stands 12 = .ok (.iload 5, 2) := kq.at kqdX11_stands_0 7 rfl
theorem dX11_stands_14 : decode cX11_stands 14 = .ok (.iaload, 1) := kq.at kqdX11_stands_0 8 rfl
theorem dX11_stands_15 : decode cX11_stands 15 = .ok (.iadd, 1) := kq.at kqdX11_stands_0 9 rfl
theorem dX11_stands_16 : decode cX11_stands 16 = .ok (.iload 4, 2) := kq.at kqdX11_stands_0 10 rfl
theorem dX11_stands_18 : decode cX11_stands 18 = .ok (.if_icmp .le 5, 3) := kq.at kqdX11_stands_0 11 rfl
theorem dX11_stands_21 : decode cX11_stands 21 = .ok (.iconst 0, 1) := kq.at kqdX11_stands_0 12 rfl
theorem dX11_stands_22 : decode cX11_stands 22 = .ok (.ireturn, 1) := kq.at kqdX11_stands_0 13 rfl
theorem dX11_stands_23 : decode cX11_stands 23 = .ok (.iconst 0, 1) := kq.at kqdX11_stands_0 14 rfl
theorem dX11_stands_24 : decode cX11_stands 24 = .ok (.istore 6, 2) := kq.at kqdX11_stands_0 15 rfl
theorem dX11_stands_26 : decode cX11_stands 26 = .ok (.iload 6, 2) := kq.at kqdX11_stands_0 16 rfl
theorem dX11_stands_28 : decode cX11_stands 28 = .ok (.aload_n 0, 1) := kq.at kqdX11_stands_0 17 rfl
theorem dX11_stands_29 : decode cX11_stands 29 = .ok (.getfield 7, 3) := kq.at kqdX11_stands_0 18 rfl
theorem dX11_stands_32 : decode cX11_stands 32 = .ok (.iload 5, 2) := kq.at kqdX11_stands_0 19 rfl
theorem dX11_stands_34 : decode cX11_stands 34 = .ok (.iaload, 1) := kq.at kqdX11_stands_0 20 rfl
theorem dX11_stands_35 : decode cX11_stands 35 = .ok (.if_icmp .ge 56, 3) := kq.at kqdX11_stands_0 21 rfl
theorem dX11_stands_38 : decode cX11_stands 38 = .ok (.aload_n 0, 1) := kq.at kqdX11_stands_0 22 rfl
theorem dX11_stands_39 : decode cX11_stands 39 = .ok (.iload_n 2, 1) := kq.at kqdX11_stands_0 23 rfl
theorem kqdX11_stands_40 : kq cX11_stands [(40, .iload 6, 2), (42, .iadd, 1), (43, .invokevirtual 239, 3), (46, .invokestatic 242, 3), (49, .aload_n 0, 1), (50, .getfield 7, 3), (53, .iload 5, 2), (55, .iconst 1, 1), (56, .iadd, 1), (57, .iload 6, 2), (59, .iadd, 1), (60, .iaload, 1), (61, .if_icmp .ne 22, 3), (64, .iload 6, 2), (66, .ifCond .le 19, 3), (69, .aload_n 0, 1), (70, .iload_n 2, 1), (71, .iload 6, 2), (73, .iadd, 1), (74, .invokevirtual 239, 3), (77, .invokestatic 236, 3), (80, .ifCond .eq 5, 3), (83, .iconst 0, 1), (84, .ireturn, 1)] = true := by decide +kernel
theorem dX11_stands_40 : decode cX11_stands 40 = .ok (.iload 6, 2) := kq.at kqdX11_stands_40 0 rfl
theorem dX11_stands_42 : decode cX11_stands 42 = .ok (.iadd, 1) := kq.at kqdX11_stands_40 1 rfl
theorem dX11_stands_43 : decode cX11_stands 43 = .ok (.invokevirtual 239, 3) := kq.at kqdX11_stands_40 2 rfl
theorem dX11_stands_46 : decode cX11_stands 46 = .ok (.invokestatic 242, 3) := kq.at kqdX11_stands_40 3 rfl
theorem dX11_stands_49 : decode cX11_stands 49 = .ok (.aload_n 0, 1) := kq.at kqdX11_stands_40 4 rfl
theorem dX11_stands_50 : decode cX11_stands 50 = .ok (.getfield 7, 3) := kq.at kqdX11_stands_40 5 rfl
theorem dX11_stands_53 : decode cX11_stands 53 = .ok (.iload 5, 2) := kq.at kqdX11_stands_40 6 rfl
theorem dX11_stands_55 : decode cX11_stands 55 = .ok (.iconst 1, 1) := kq.at kqdX11_stands_40 7 rfl
theorem dX11_stands_56 : decode cX11_stands 56 = .ok (.iadd, 1) := kq.at kqdX11_stands_40 8 rfl
theorem dX11_stands_57 : decode cX11_stands 57 = .ok (.iload 6, 2) := kq.at kqdX11_stands_40 9 rfl
theorem dX11_stands_59 : decode cX11_stands 59 = .ok (.iadd, 1) := kq.at kqdX11_stands_40 10 rfl
theorem dX11_stands_60 : decode cX11_stands 60 = .ok (.iaload, 1) := kq.at kqdX11_stands_40 11 rfl
theorem dX11_stands_61 : decode cX11_stands 61 = .ok (.if_icmp .ne 22, 3) := kq.at kqdX11_stands_40 12 rfl
theorem dX11_stands_64 : decode cX11_stands 64 = .ok (.iload 6, 2) := kq.at kqdX11_stands_40 13 rfl
theorem dX11_stands_66 : decode cX11_stands 66 = .ok (.ifCond .le 19, 3) := kq.at kqdX11_stands_40 14 rfl
theorem dX11_stands_69 : decode cX11_stands 69 = .ok (.aload_n 0, 1) := kq.at kqdX11_stands_40 15 rfl
theorem dX11_stands_70 : decode cX11_stands 70 = .ok (.iload_n 2, 1) := kq.at kqdX11_stands_40 16 rfl
theorem dX11_stands_71 : decode cX11_stands 71 = .ok (.iload 6, 2) := kq.at kqdX11_stands_40 17 rfl
theorem dX11_stands_73 : decode cX11_stands 73 = .ok (.iadd, 1) := kq.at kqdX11_stands_40 18 rfl
theorem dX11_stands_74 : decode cX11_stands 74 = .ok (.invokevirtual 239, 3) := kq.at kqdX11_stands_40 19 rfl
theorem dX11_stands_77 : decode cX11_stands 77 = .ok (.invokestatic 236, 3) := kq.at kqdX11_stands_40 20 rfl
theorem dX11_stands_80 : decode cX11_stands 80 = .ok (.ifCond .eq 5, 3) := kq.at kqdX11_stands_40 21 rfl
theorem dX11_stands_83 : decode cX11_stands 83 = .ok (.iconst 0, 1) := kq.at kqdX11_stands_40 22 rfl
theorem dX11_stands_84 : decode cX11_stands 84 = .ok (.ireturn, 1) := kq.at kqdX11_stands_40 23 rfl
theorem kqdX11_stands_85 : kq cX11_stands [(85, .iinc 6 1, 3), (88, .goto (-62), 3), (91, .aload_n 0, 1), (92, .getfield 7, 3), (95, .iload 5, 2), (97, .bipush 11, 2), (99, .iadd, 1), (100, .iaload, 1), (101, .iload_n 2, 1), (102, .iload_n 3, 1), (103, .if_icmp .ne 7, 3), (106, .iconst 1, 1), (107, .goto 4, 3), (110, .iconst 0, 1), (111, .iload_n 2, 1), (112, .aload_n 0, 1), (113, .getfield 7, 3), (116, .iload 5, 2), (118, .iaload, 1), (119, .iadd, 1), (120, .iload 4, 2), (122, .if_icmp .ne 7, 3), (125, .iconst 1, 1), (126, .goto 4, 3)] = true := by decide +kernel
theorem dX11_stands_85 : decode cX11_stands 85 = .ok (.iinc 6 1, 3) := kq.at kqdX11_stands_85 0 rfl
theorem dX11_stands_88 : decode cX11_stands 88 = .ok (.goto (-62), 3) := kq.at kqdX11_stands_85 1 rfl
theorem dX11_stands_91 : decode cX11_stands 91 = .ok (.aload_n 0, 1) := kq.at kqdX11_stands_85 2 rfl
theorem dX11_stands_92 : decode cX11_stands 92 = .ok (.getfield 7, 3) := kq.at kqdX11_stands_85 3 rfl
theorem dX11_stands_95 : decode cX11_stands 95 = .ok (.iload 5, 2) := kq.at kqdX11_stands_85 4 rfl
theorem dX11_stands_97 : decode cX11_stands 97 = .ok (.bipush 11, 2) := kq.at kqdX11_stands_85 5 rfl
theorem dX11_stands_99 : decode cX11_stands 99 = .ok (.iadd, 1) := kq.at kqdX11_stands_85 6 rfl
theorem dX11_stands_100 : decode cX11_stands 100 = .ok (.iaload, 1) := kq.at kqdX11_stands_85 7 rfl
theorem dX11_stands_101 : decode cX11_stands 101 = .ok (.iload_n 2, 1) := kq.at kqdX11_stands_85 8 rfl
theorem dX11_stands_102 : decode cX11_stands 102 = .ok (.iload_n 3, 1) := kq.at kqdX11_stands_85 9 rfl
theorem dX11_stands_103 : decode cX11_stands 103 = .ok (.if_icmp .ne 7, 3) := kq.at kqdX11_stands_85 10 rfl
theorem dX11_stands_106 : decode cX11_stands 106 = .ok (.iconst 1, 1) := kq.at kqdX11_stands_85 11 rfl
theorem dX11_stands_107 : decode cX11_stands 107 = .ok (.goto 4, 3) := kq.at kqdX11_stands_85 12 rfl
theorem dX11_stands_110 : decode cX11_stands 110 = .ok (.iconst 0, 1) := kq.at kqdX11_stands_85 13 rfl
theorem dX11_stands_111 : decode cX11_stands 111 = .ok (.iload_n 2, 1) := kq.at kqdX11_stands_85 14 rfl
theorem dX11_stands_112 : decode cX11_stands 112 = .ok (.aload_n 0, 1) := kq.at kqdX11_stands_85 15 rfl
theorem dX11_stands_113 : decode cX11_stands 113 = .ok (.getfield 7, 3) := kq.at kqdX11_stands_85 16 rfl
theorem dX11_stands_116 : decode cX11_stands 116 = .ok (.iload 5, 2) := kq.at kqdX11_stands_85 17 rfl
theorem dX11_stands_118 : decode cX11_stands 118 = .ok (.iaload, 1) := kq.at kqdX11_stands_85 18 rfl
theorem dX11_stands_119 : decode cX11_stands 119 = .ok (.iadd, 1) := kq.at kqdX11_stands_85 19 rfl
theorem dX11_stands_120 : decode cX11_stands 120 = .ok (.iload 4, 2) := kq.at kqdX11_stands_85 20 rfl
theorem dX11_stands_122 : decode cX11_stands 122 = .ok (.if_icmp .ne 7, 3) := kq.at kqdX11_stands_85 21 rfl
theorem dX11_stands_125 : decode cX11_stands 125 = .ok (.iconst 1, 1) := kq.at kqdX11_stands_85 22 rfl
theorem dX11_stands_126 : decode cX11_stands 126 = .ok (.goto 4, 3) := kq.at kqdX11_stands_85 23 rfl
theorem kqdX11_stands_129 : kq cX11_stands [(129, .iconst 0, 1), (130, .invokestatic 245, 3), (133, .ireturn, 1)] = true := by decide +kernel
theorem dX11_stands_129 : decode cX11_stands 129 = .ok (.iconst 0, 1) := kq.at kqdX11_stands_129 0 rfl
theorem dX11_stands_130 : decode cX11_stands 130 = .ok (.invokestatic 245, 3) := kq.at kqdX11_stands_129 1 rfl
theorem dX11_stands_133 : decode cX11_stands 133 = .ok (.ireturn, 1) := kq.at kqdX11_stands_129 2 rfl
theorem kqdX11_isOut_0 : kq cX11_isOut [(0, .iload_n 0, 1), (1, .iload_n 1, 1), (2, .ishr, 1), (3, .iconst 1, 1), (4, .iand, 1), (5, .iconst 1, 1), (6, .if_icmp .ne 7, 3), (9, .iconst 1, 1), (10, .goto 4, 3), (13, .iconst 0, 1), (14, .ireturn, 1)] = true := by decide +kernel
theorem dX11_isOut_0 : decode cX11_isOut 0 = .ok (.iload_n 0, 1) := kq.at kqdX11_isOut_0 0 rfl
theorem dX11_isOut_1 : decode cX11_isOut 1 = .ok (.iload_n 1, 1) := kq.at kqdX11_isOut_0 1 rfl
theorem dX11_isOut_2 : decode cX11_isOut 2 = .ok (.ishr, 1) := kq.at kqdX11_isOut_0 2 rfl
theorem dX11_isOut_3 : decode cX11_isOut 3 = .ok (.iconst 1, 1) := kq.at kqdX11_isOut_0 3 rfl
theorem dX11_isOut_4 : decode cX11_isOut 4 = .ok (.iand, 1) := kq.at kqdX11_isOut_0 4 rfl
theorem dX11_isOut_5 : decode cX11_isOut 5 = .ok (.iconst 1, 1) := kq.at kqdX11_isOut_0 5 rfl
theorem dX11_isOut_6 : decode cX11_isOut 6 = .ok (.if_icmp .ne 7, 3) := kq.at kqdX11_isOut_0 6 rfl
theorem dX11_isOut_9 : decode cX11_isOut 9 = .ok (.iconst 1, 1) := kq.at kqdX11_isOut_0 7 rfl
theorem dX11_isOut_10 : decode cX11_isOut 10 = .ok (.goto 4, 3) := kq.at kqdX11_isOut_0 8 rfl
theorem dX11_isOut_13 : decode cX11_isOut 13 = .ok (.iconst 0, 1) := kq.at kqdX11_isOut_0 9 rfl
theorem dX11_isOut_14 : decode cX11_isOut 14 = .ok (.ireturn, 1) := kq.at kqdX11_isOut_0 10 rfl
theorem kqdX11_taking_0 : kq cX11_taking [(0, .iconst (-1), 1), (1, .istore 5, 2), (3, .iconst 0, 1), (4, .istore 6, 2), (6, .iload 6, 2), (8, .aload_n 0, 1), (9, .getfield 7, 3), (12, .iconst 0, 1), (13, .iaload, 1), (14, .if_icmp .ge 66, 3), (17, .iload 4, 2), (19, .iload 6, 2), (21, .invokestatic 249, 3), (24, .ifCond .ne 50, 3), (27, .aload_n 0, 1), (28, .iload 6, 2), (30, .iload_n 1, 1), (31, .iload_n 2, 1), (32, .iload_n 3, 1), (33, .invokevirtual 252, 3), (36, .ifCond .eq 38, 3), (39, .iload 5, 2), (41, .iconst (-1), 1), (42, .if_icmp .eq 28, 3)] = true := by decide +kernel
theorem dX11_taking_0 : decode cX11_taking 0 = .ok (.iconst (-1), 1) := kq.at kqdX11_taking_0 0 rfl
theorem dX11_taking_1 : decode cX11_taking 1 = .ok (.istore 5, 2) := kq.at kqdX11_taking_0 1 rfl
theorem dX11_taking_3 : decode cX11_taking 3 = .ok (.iconst 0, 1) := kq.at kqdX11_taking_0 2 rfl
theorem dX11_taking_4 : decode cX11_taking 4 = .ok (.istore 6, 2) := kq.at kqdX11_taking_0 3 rfl
theorem dX11_taking_6 : decode cX11_taking 6 = .ok (.iload 6, 2) := kq.at kqdX11_taking_0 4 rfl
theorem dX11_taking_8 : decode cX11_taking 8 = .ok (.aload_n 0, 1) := kq.at kqdX11_taking_0 5 rfl
theorem dX11_taking_9 : decode cX11_taking 9 = .ok (.getfield 7, 3) := kq.at kqdX11_taking_0 6 rfl
theorem dX11_taking_12 : decode cX11_taking 12 = .ok (.iconst 0, 1) := kq.at kqdX11_taking_0 7 rfl
theorem dX11_taking_13 : decode cX11_taking 13 = .ok (.iaload, 1) := kq.at kqdX11_taking_0 8 rfl
theorem dX11_taking_14 : decode cX11_taking 14 = .ok (.if_icmp .ge 66, 3) := kq.at kqdX11_taking_0 9 rfl
theorem dX11_taking_17 : decode cX11_taking 17 = .ok (.iload 4, 2) := kq.at kqdX11_taking_0 10 rfl
theorem dX11_taking_19 : decode cX11_taking 19 = .ok (.iload 6, 2) := kq.at kqdX11_taking_0 11 rfl
theorem dX11_taking_21 : decode cX11_taking 21 = .ok (.invokestatic 249, 3) := kq.at kqdX11_taking_0 12 rfl
theorem dX11_taking_24 : decode cX11_taking 24 = .ok (.ifCond .ne 50, 3) := kq.at kqdX11_taking_0 13 rfl
theorem dX11_taking_27 : decode cX11_taking 27 = .ok (.aload_n 0, 1) := kq.at kqdX11_taking_0 14 rfl
theorem dX11_taking_28 : decode cX11_taking 28 = .ok (.iload 6, 2) := kq.at kqdX11_taking_0 15 rfl
theorem dX11_taking_30 : decode cX11_taking 30 = .ok (.iload_n 1, 1) := kq.at kqdX11_taking_0 16 rfl
theorem dX11_taking_31 : decode cX11_taking 31 = .ok (.iload_n 2, 1) := kq.at kqdX11_taking_0 17 rfl
theorem dX11_taking_32 : decode cX11_taking 32 = .ok (.iload_n 3, 1) := kq.at kqdX11_taking_0 18 rfl
theorem dX11_taking_33 : decode cX11_taking 33 = .ok (.invokevirtual 252, 3) := kq.at kqdX11_taking_0 19 rfl
theorem dX11_taking_36 : decode cX11_taking 36 = .ok (.ifCond .eq 38, 3) := kq.at kqdX11_taking_0 20 rfl
theorem dX11_taking_39 : decode cX11_taking 39 = .ok (.iload 5, 2) := kq.at kqdX11_taking_0 21 rfl
theorem dX11_taking_41 : decode cX11_taking 41 = .ok (.iconst (-1), 1) := kq.at kqdX11_taking_0 22 rfl
theorem dX11_taking_42 : decode cX11_taking 42 = .ok (.if_icmp .eq 28, 3) := kq.at kqdX11_taking_0 23 rfl
theorem kqdX11_taking_45 : kq cX11_taking [(45, .aload_n 0, 1), (46, .getfield 7, 3), (49, .iconst 0, 1), (50, .iload 6, 2), (52, .invokestatic 194, 3), (55, .iaload, 1), (56, .aload_n 0, 1), (57, .getfield 7, 3), (60, .iconst 0, 1), (61, .iload 5, 2), (63, .invokestatic 194, 3), (66, .iaload, 1), (67, .if_icmp .le 7, 3), (70, .iload 6, 2), (72, .istore 5, 2), (74, .iinc 6 1, 3), (77, .goto (-71), 3), (80, .iload 5, 2), (82, .ireturn, 1)] = true := by decide +kernel
theorem dX11_taking_45 : decode cX11_taking 45 = .ok (.aload_n 0, 1) := kq.at kqdX11_taking_45 0 rfl
theorem dX11_taking_46 : decode cX11_taking 46 = .ok (.getfield 7, 3) := kq.at kqdX11_taking_45 1 rfl
theorem dX11_taking_49 : decode cX11_taking 49 = .ok (.iconst 0, 1) := kq.at kqdX11_taking_45 2 rfl
theorem dX11_taking_50 : decode cX11_taking 50 = .ok (.iload 6, 2) := kq.at kqdX11_taking_45 3 rfl
theorem dX11_taking_52 : decode cX11_taking 52 = .ok (.invokestatic 194, 3) := kq.at kqdX11_taking_45 4 rfl
theorem dX11_taking_55 : decode cX11_taking 55 = .ok (.iaload, 1) := kq.at kqdX11_taking_45 5 rfl
theorem dX11_taking_56 : decode cX11_taking 56 = .ok (.aload_n 0, 1) := kq.at kqdX11_taking_45 6 rfl
theorem dX11_taking_57 : decode cX11_taking 57 = .ok (.getfield 7, 3) := kq.at kqdX11_taking_45 7 rfl
theorem dX11_taking_60 : decode cX11_taking 60 = .ok (.iconst 0, 1) := kq.at kqdX11_taking_45 8 rfl
theorem dX11_taking_61 : decode cX11_taking 61 = .ok (.iload 5, 2) := kq.at kqdX11_taking_45 9 rfl
theorem dX11_taking_63 : decode cX11_taking 63 = .ok (.invokestatic 194, 3) := kq.at kqdX11_taking_45 10 rfl
theorem dX11_taking_66 : decode cX11_taking 66 = .ok (.iaload, 1) := kq.at kqdX11_taking_45 11 rfl
theorem dX11_taking_67 : decode cX11_taking 67 = .ok (.if_icmp .le 7, 3) := kq.at kqdX11_taking_45 12 rfl
theorem dX11_taking_70 : decode cX11_taking 70 = .ok (.iload 6, 2) := kq.at kqdX11_taking_45 13 rfl
theorem dX11_taking_72 : decode cX11_taking 72 = .ok (.istore 5, 2) := kq.at kqdX11_taking_45 14 rfl
theorem dX11_taking_74 : decode cX11_taking 74 = .ok (.iinc 6 1, 3) := kq.at kqdX11_taking_45 15 rfl
theorem dX11_taking_77 : decode cX11_taking 77 = .ok (.goto (-71), 3) := kq.at kqdX11_taking_45 16 rfl
theorem dX11_taking_80 : decode cX11_taking 80 = .ok (.iload 5, 2) := kq.at kqdX11_taking_45 17 rfl
theorem dX11_taking_82 : decode cX11_taking 82 = .ok (.ireturn, 1) := kq.at kqdX11_taking_45 18 rfl
theorem kqdX11_justOf_0 : kq cX11_justOf [(0, .iconst 0, 1), (1, .istore_n 3, 1), (2, .iload_n 3, 1), (3, .aload_n 0, 1), (4, .getfield 7, 3), (7, .iconst 0, 1), (8, .iaload, 1), (9, .if_icmp .ge 63, 3), (12, .iconst 0, 1), (13, .iload_n 3, 1), (14, .invokestatic 194, 3), (17, .istore 4, 2), (19, .iload_n 2, 1), (20, .iload_n 3, 1), (21, .invokestatic 249, 3), (24, .ifCond .ne 42, 3), (27, .aload_n 0, 1), (28, .getfield 7, 3), (31, .iload 4, 2), (33, .iaload, 1), (34, .iconst 1, 1), (35, .if_icmp .ne 31, 3), (38, .aload_n 0, 1), (39, .getfield 7, 3)] = true := by decide +kernel
theorem dX11_justOf_0 : decode cX11_justOf 0 = .ok (.iconst 0, 1) := kq.at kqdX11_justOf_0 0 rfl
theorem dX11_justOf_1 : decode cX11_justOf 1 = .ok (.istore_n 3, 1) := kq.at kqdX11_justOf_0 1 rfl
theorem dX11_justOf_2 : decode cX11_justOf 2 = .ok (.iload_n 3, 1) := kq.at kqdX11_justOf_0 2 rfl
theorem dX11_justOf_3 : decode cX11_justOf 3 = .ok (.aload_n 0, 1) := kq.at kqdX11_justOf_0 3 rfl
theorem dX11_justOf_4 : decode cX11_justOf 4 = .ok (.getfield 7, 3) := kq.at kqdX11_justOf_0 4 rfl
theorem dX11_justOf_7 : decode cX11_justOf 7 = .ok (.iconst 0, 1) := kq.at kqdX11_justOf_0 5 rfl
theorem dX11_justOf_8 : decode cX11_justOf 8 = .ok (.iaload, 1) := kq.at kqdX11_justOf_0 6 rfl
theorem dX11_justOf_9 : decode cX11_justOf 9 = .ok (.if_icmp .ge 63, 3) := kq.at kqdX11_justOf_0 7 rfl
theorem dX11_justOf_12 : decode cX11_justOf 12 = .ok (.iconst 0, 1) := kq.at kqdX11_justOf_0 8 rfl
theorem dX11_justOf_13 : decode cX11_justOf 13 = .ok (.iload_n 3, 1) := kq.at kqdX11_justOf_0 9 rfl
theorem dX11_justOf_14 : decode cX11_justOf 14 = .ok (.invokestatic 194, 3) := kq.at kqdX11_justOf_0 10 rfl
theorem dX11_justOf_17 : decode cX11_justOf 17 = .ok (.istore 4, 2) := kq.at kqdX11_justOf_0 11 rfl
theorem dX11_justOf_19 : decode cX11_justOf 19 = .ok (.iload_n 2, 1) := kq.at kqdX11_justOf_0 12 rfl
theorem dX11_justOf_20 : decode cX11_justOf 20 = .ok (.iload_n 3, 1) := kq.at kqdX11_justOf_0 13 rfl
theorem dX11_justOf_21 : decode cX11_justOf 21 = .ok (.invokestatic 249, 3) := kq.at kqdX11_justOf_0 14 rfl
theorem dX11_justOf_24 : decode cX11_justOf 24 = .ok (.ifCond .ne 42, 3) := kq.at kqdX11_justOf_0 15 rfl
theorem dX11_justOf_27 : decode cX11_justOf 27 = .ok (.aload_n 0, 1) := kq.at kqdX11_justOf_0 16 rfl
theorem dX11_justOf_28 : decode cX11_justOf 28 = .ok (.getfield 7, 3) := kq.at kqdX11_justOf_0 17 rfl
theorem dX11_justOf_31 : decode cX11_justOf 31 = .ok (.iload 4, 2) := kq.at kqdX11_justOf_0 18 rfl
theorem dX11_justOf_33 : decode cX11_justOf 33 = .ok (.iaload, 1) := kq.at kqdX11_justOf_0 19 rfl
theorem dX11_justOf_34 : decode cX11_justOf 34 = .ok (.iconst 1, 1) := kq.at kqdX11_justOf_0 20 rfl
theorem dX11_justOf_35 : decode cX11_justOf 35 = .ok (.if_icmp .ne 31, 3) := kq.at kqdX11_justOf_0 21 rfl
theorem dX11_justOf_38 : decode cX11_justOf 38 = .ok (.aload_n 0, 1) := kq.at kqdX11_justOf_0 22 rfl
theorem dX11_justOf_39 : decode cX11_justOf 39 = .ok (.getfield 7, 3) := kq.at kqdX11_justOf_0 23 rfl
theorem kqdX11_justOf_42 : kq cX11_justOf [(42, .iload 4, 2), (44, .iconst 1, 1), (45, .iadd, 1), (46, .iaload, 1), (47, .iload_n 1, 1), (48, .if_icmp .ne 18, 3), (51, .aload_n 0, 1), (52, .getfield 7, 3), (55, .iload 4, 2), (57, .bipush 11, 2), (59, .iadd, 1), (60, .iaload, 1), (61, .ifCond .ne 5, 3), (64, .iload_n 3, 1), (65, .ireturn, 1), (66, .iinc 3 1, 3), (69, .goto (-67), 3), (72, .iconst (-1), 1), (73, .ireturn, 1)] = true := by decide +kernel
theorem dX11_justOf_42 : decode cX11_justOf 42 = .ok (.iload 4, 2) := kq.at kqdX11_justOf_42 0 rfl
theorem dX11_justOf_44 : decode cX11_justOf 44 = .ok (.iconst 1, 1) := kq.at kqdX11_justOf_42 1 rfl
theorem dX11_justOf_45 : decode cX11_justOf 45 = .ok (.iadd, 1) := kq.at kqdX11_justOf_42 2 rfl
theorem dX11_justOf_46 : decode cX11_justOf 46 = .ok (.iaload, 1) := kq.at kqdX11_justOf_42 3 rfl
theorem dX11_justOf_47 : decode cX11_justOf 47 = .ok (.iload_n 1, 1) := kq.at kqdX11_justOf_42 4 rfl
theorem dX11_justOf_48 : decode cX11_justOf 48 = .ok (.if_icmp .ne 18, 3) := kq.at kqdX11_justOf_42 5 rfl
theorem dX11_justOf_51 : decode cX11_justOf 51 = .ok (.aload_n 0, 1) := kq.at kqdX11_justOf_42 6 rfl
theorem dX11_justOf_52 : decode cX11_justOf 52 = .ok (.getfield 7, 3) := kq.at kqdX11_justOf_42 7 rfl
theorem dX11_justOf_55 : decode cX11_justOf 55 = .ok (.iload 4, 2) := kq.at kqdX11_justOf_42 8 rfl
theorem dX11_justOf_57 : decode cX11_justOf 57 = .ok (.bipush 11, 2) := kq.at kqdX11_justOf_42 9 rfl
theorem dX11_justOf_59 : decode cX11_justOf 59 = .ok (.iadd, 1) := kq.at kqdX11_justOf_42 10 rfl
theorem dX11_justOf_60 : decode cX11_justOf 60 = .ok (.iaload, 1) := kq.at kqdX11_justOf_42 11 rfl
theorem dX11_justOf_61 : decode cX11_justOf 61 = .ok (.ifCond .ne 5, 3) := kq.at kqdX11_justOf_42 12 rfl
theorem dX11_justOf_64 : decode cX11_justOf 64 = .ok (.iload_n 3, 1) := kq.at kqdX11_justOf_42 13 rfl
theorem dX11_justOf_65 : decode cX11_justOf 65 = .ok (.ireturn, 1) := kq.at kqdX11_justOf_42 14 rfl
theorem dX11_justOf_66 : decode cX11_justOf 66 = .ok (.iinc 3 1, 3) := kq.at kqdX11_justOf_42 15 rfl
theorem dX11_justOf_69 : decode cX11_justOf 69 = .ok (.goto (-67), 3) := kq.at kqdX11_justOf_42 16 rfl
theorem dX11_justOf_72 : decode cX11_justOf 72 = .ok (.iconst (-1), 1) := kq.at kqdX11_justOf_42 17 rfl
theorem dX11_justOf_73 : decode cX11_justOf 73 = .ok (.ireturn, 1) := kq.at kqdX11_justOf_42 18 rfl
theorem kqdX11_sets_0 : kq cX11_sets [(0, .aload_n 0, 1), (1, .getfield 7, 3), (4, .sipush 17100, 3), (7, .aload_n 0, 1), (8, .getfield 7, 3), (11, .sipush 16508, 3), (14, .iaload, 1), (15, .iadd, 1), (16, .iload_n 1, 1), (17, .iastore, 1), (18, .aload_n 0, 1), (19, .getfield 7, 3), (22, .sipush 18540, 3), (25, .aload_n 0, 1), (26, .getfield 7, 3), (29, .sipush 16508, 3), (32, .iaload, 1), (33, .iadd, 1), (34, .iload_n 2, 1), (35, .iastore, 1), (36, .aload_n 0, 1), (37, .getfield 7, 3), (40, .sipush 16508, 3), (43, .dup2, 1)] = true := by decide +kernel
theorem dX11_sets_0 : decode cX11_sets 0 = .ok (.aload_n 0, 1) := kq.at kqdX11_sets_0 0 rfl
theorem dX11_sets_1 : decode cX11_sets 1 = .ok (.getfield 7, 3) := kq.at kqdX11_sets_0 1 rfl
theorem dX11_sets_4 : decode cX11_sets 4 = .ok (.sipush 17100, 3) := kq.at kqdX11_sets_0 2 rfl
theorem dX11_sets_7 : decode cX11_sets 7 = .ok (.aload_n 0, 1) := kq.at kqdX11_sets_0 3 rfl
theorem dX11_sets_8 : decode cX11_sets 8 = .ok (.getfield 7, 3) := kq.at kqdX11_sets_0 4 rfl
theorem dX11_sets_11 : decode cX11_sets 11 = .ok (.sipush 16508, 3) := kq.at kqdX11_sets_0 5 rfl
theorem dX11_sets_14 : decode cX11_sets 14 = .ok (.iaload, 1) := kq.at kqdX11_sets_0 6 rfl
theorem dX11_sets_15 : decode cX11_sets 15 = .ok (.iadd, 1) := kq.at kqdX11_sets_0 7 rfl
theorem dX11_sets_16 : decode cX11_sets 16 = .ok (.iload_n 1, 1) := kq.at kqdX11_sets_0 8 rfl
theorem dX11_sets_17 : decode cX11_sets 17 = .ok (.iastore, 1) := kq.at kqdX11_sets_0 9 rfl
theorem dX11_sets_18 : decode cX11_sets 18 = .ok (.aload_n 0, 1) := kq.at kqdX11_sets_0 10 rfl
theorem dX11_sets_19 : decode cX11_sets 19 = .ok (.getfield 7, 3) := kq.at kqdX11_sets_0 11 rfl
theorem dX11_sets_22 : decode cX11_sets 22 = .ok (.sipush 18540, 3) := kq.at kqdX11_sets_0 12 rfl
theorem dX11_sets_25 : decode cX11_sets 25 = .ok (.aload_n 0, 1) := kq.at kqdX11_sets_0 13 rfl
theorem dX11_sets_26 : decode cX11_sets 26 = .ok (.getfield 7, 3) := kq.at kqdX11_sets_0 14 rfl
theorem dX11_sets_29 : decode cX11_sets 29 = .ok (.sipush 16508, 3) := kq.at kqdX11_sets_0 15 rfl
theorem dX11_sets_32 : decode cX11_sets 32 = .ok (.iaload, 1) := kq.at kqdX11_sets_0 16 rfl
theorem dX11_sets_33 : decode cX11_sets 33 = .ok (.iadd, 1) := kq.at kqdX11_sets_0 17 rfl
theorem dX11_sets_34 : decode cX11_sets 34 = .ok (.iload_n 2, 1) := kq.at kqdX11_sets_0 18 rfl
theorem dX11_sets_35 : decode cX11_sets 35 = .ok (.iastore, 1) := kq.at kqdX11_sets_0 19 rfl
theorem dX11_sets_36 : decode cX11_sets 36 = .ok (.aload_n 0, 1) := kq.at kqdX11_sets_0 20 rfl
theorem dX11_sets_37 : decode cX11_sets 37 = .ok (.getfield 7, 3) := kq.at kqdX11_sets_0 21 rfl
theorem dX11_sets_40 : decode cX11_sets 40 = .ok (.sipush 16508, 3) := kq.at kqdX11_sets_0 22 rfl
theorem dX11_sets_43 : decode cX11_sets 43 = .ok (.dup2, 1) := kq.at kqdX11_sets_0 23 rfl
theorem kqdX11_sets_44 : kq cX11_sets [(44, .iaload, 1), (45, .iconst 1, 1), (46, .iadd, 1), (47, .iastore, 1), (48, .return_, 1)] = true := by decide +kernel
theorem dX11_sets_44 : decode cX11_sets 44 = .ok (.iaload, 1) := kq.at kqdX11_sets_44 0 rfl
theorem dX11_sets_45 : decode cX11_sets 45 = .ok (.iconst 1, 1) := kq.at kqdX11_sets_44 1 rfl
theorem dX11_sets_46 : decode cX11_sets 46 = .ok (.iadd, 1) := kq.at kqdX11_sets_44 2 rfl
theorem dX11_sets_47 : decode cX11_sets 47 = .ok (.iastore, 1) := kq.at kqdX11_sets_44 3 rfl
theorem dX11_sets_48 : decode cX11_sets 48 = .ok (.return_, 1) := kq.at kqdX11_sets_44 4 rfl
theorem kqdX11_setsRule_0 : kq cX11_setsRule [(0, .iconst 0, 1), (1, .iload_n 1, 1), (2, .invokestatic 194, 3), (5, .istore_n 2, 1), (6, .iconst 0, 1), (7, .istore_n 3, 1), (8, .iload_n 3, 1), (9, .aload_n 0, 1), (10, .getfield 7, 3), (13, .iload_n 2, 1), (14, .bipush 7, 2), (16, .iadd, 1), (17, .iaload, 1), (18, .if_icmp .ge 27, 3), (21, .aload_n 0, 1), (22, .aload_n 0, 1), (23, .getfield 7, 3), (26, .iload_n 2, 1), (27, .bipush 7, 2), (29, .iadd, 1), (30, .iconst 1, 1), (31, .iadd, 1), (32, .iload_n 3, 1), (33, .iadd, 1)] = true := by decide +kernel
theorem dX11_setsRule_0 : decode cX11_setsRule 0 = .ok (.iconst 0, 1) := kq.at kqdX11_setsRule_0 0 rfl
theorem dX11_setsRule_1 : decode cX11_setsRule 1 = .ok (.iload_n 1, 1) := kq.at kqdX11_setsRule_0 1 rfl
theorem dX11_setsRule_2 : decode cX11_setsRule 2 = .ok (.invokestatic 194, 3) := kq.at kqdX11_setsRule_0 2 rfl
theorem dX11_setsRule_5 : decode cX11_setsRule 5 = .ok (.istore_n 2, 1) := kq.at kqdX11_setsRule_0 3 rfl
theorem dX11_setsRule_6 : decode cX11_setsRule 6 = .ok (.iconst 0, 1) := kq.at kqdX11_setsRule_0 4 rfl
theorem dX11_setsRule_7 : decode cX11_setsRule 7 = .ok (.istore_n 3, 1) := kq.at kqdX11_setsRule_0 5 rfl
theorem dX11_setsRule_8 : decode cX11_setsRule 8 = .ok (.iload_n 3, 1) := kq.at kqdX11_setsRule_0 6 rfl
theorem dX11_setsRule_9 : decode cX11_setsRule 9 = .ok (.aload_n 0, 1) := kq.at kqdX11_setsRule_0 7 rfl
theorem dX11_setsRule_10 : decode cX11_setsRule 10 = .ok (.getfield 7, 3) := kq.at kqdX11_setsRule_0 8 rfl
theorem dX11_setsRule_13 : decode cX11_setsRule 13 = .ok (.iload_n 2, 1) := kq.at kqdX11_setsRule_0 9 rfl
theorem dX11_setsRule_14 : decode cX11_setsRule 14 = .ok (.bipush 7, 2) := kq.at kqdX11_setsRule_0 10 rfl
theorem dX11_setsRule_16 : decode cX11_setsRule 16 = .ok (.iadd, 1) := kq.at kqdX11_setsRule_0 11 rfl
theorem dX11_setsRule_17 : decode cX11_setsRule 17 = .ok (.iaload, 1) := kq.at kqdX11_setsRule_0 12 rfl
theorem dX11_setsRule_18 : decode cX11_setsRule 18 = .ok (.if_icmp .ge 27, 3) := kq.at kqdX11_setsRule_0 13 rfl
theorem dX11_setsRule_21 : decode cX11_setsRule 21 = .ok (.aload_n 0, 1) := kq.at kqdX11_setsRule_0 14 rfl
theorem dX11_setsRule_22 : decode cX11_setsRule 22 = .ok (.aload_n 0, 1) := kq.at kqdX11_setsRule_0 15 rfl
theorem dX11_setsRule_23 : decode cX11_setsRule 23 = .ok (.getfield 7, 3) := kq.at kqdX11_setsRule_0 16 rfl
theorem dX11_setsRule_26 : decode cX11_setsRule 26 = .ok (.iload_n 2, 1) := kq.at kqdX11_setsRule_0 17 rfl
theorem dX11_setsRule_27 : decode cX11_setsRule 27 = .ok (.bipush 7, 2) := kq.at kqdX11_setsRule_0 18 rfl
theorem dX11_setsRule_29 : decode cX11_setsRule 29 = .ok (.iadd, 1) := kq.at kqdX11_setsRule_0 19 rfl
theorem dX11_setsRule_30 : decode cX11_setsRule 30 = .ok (.iconst 1, 1) := kq.at kqdX11_setsRule_0 20 rfl
theorem dX11_setsRule_31 : decode cX11_setsRule 31 = .ok (.iadd, 1) := kq.at kqdX11_setsRule_0 21 rfl
theorem dX11_setsRule_32 : decode cX11_setsRule 32 = .ok (.iload_n 3, 1) := kq.at kqdX11_setsRule_0 22 rfl
theorem dX11_setsRule_33 : decode cX11_setsRule 33 = .ok (.iadd, 1) := kq.at kqdX11_setsRule_0 23 rfl
theorem kqdX11_setsRule_34 : kq cX11_setsRule [(34, .iaload, 1), (35, .iload_n 1, 1), (36, .invokevirtual 256, 3), (39, .iinc 3 1, 3), (42, .goto (-34), 3), (45, .aload_n 0, 1), (46, .getfield 7, 3), (49, .sipush 18510, 3), (52, .iload_n 1, 1), (53, .iadd, 1), (54, .dup2, 1), (55, .iaload, 1), (56, .iconst 1, 1), (57, .iadd, 1), (58, .iastore, 1), (59, .aload_n 0, 1), (60, .getfield 7, 3), (63, .sipush 16510, 3), (66, .dup2, 1), (67, .iaload, 1), (68, .iconst 1, 1), (69, .iadd, 1), (70, .iastore, 1), (71, .aload_n 0, 1)] = true := by decide +kernel
theorem dX11_setsRule_34 : decode cX11_setsRule 34 = .ok (.iaload, 1) := kq.at kqdX11_setsRule_34 0 rfl
theorem dX11_setsRule_35 : decode cX11_setsRule 35 = .ok (.iload_n 1, 1) := kq.at kqdX11_setsRule_34 1 rfl
theorem dX11_setsRule_36 : decode cX11_setsRule 36 = .ok (.invokevirtual 256, 3) := kq.at kqdX11_setsRule_34 2 rfl
theorem dX11_setsRule_39 : decode cX11_setsRule 39 = .ok (.iinc 3 1, 3) := kq.at kqdX11_setsRule_34 3 rfl
theorem dX11_setsRule_42 : decode cX11_setsRule 42 = .ok (.goto (-34), 3) := kq.at kqdX11_setsRule_34 4 rfl
theorem dX11_setsRule_45 : decode cX11_setsRule 45 = .ok (.aload_n 0, 1) := kq.at kqdX11_setsRule_34 5 rfl
theorem dX11_setsRule_46 : decode cX11_setsRule 46 = .ok (.getfield 7, 3) := kq.at kqdX11_setsRule_34 6 rfl
theorem dX11_setsRule_49 : decode cX11_setsRule 49 = .ok (.sipush 18510, 3) := kq.at kqdX11_setsRule_34 7 rfl
theorem dX11_setsRule_52 : decode cX11_setsRule 52 = .ok (.iload_n 1, 1) := kq.at kqdX11_setsRule_34 8 rfl
theorem dX11_setsRule_53 : decode cX11_setsRule 53 = .ok (.iadd, 1) := kq.at kqdX11_setsRule_34 9 rfl
theorem dX11_setsRule_54 : decode cX11_setsRule 54 = .ok (.dup2, 1) := kq.at kqdX11_setsRule_34 10 rfl
theorem dX11_setsRule_55 : decode cX11_setsRule 55 = .ok (.iaload, 1) := kq.at kqdX11_setsRule_34 11 rfl
theorem dX11_setsRule_56 : decode cX11_setsRule 56 = .ok (.iconst 1, 1) := kq.at kqdX11_setsRule_34 12 rfl
theorem dX11_setsRule_57 : decode cX11_setsRule 57 = .ok (.iadd, 1) := kq.at kqdX11_setsRule_34 13 rfl
theorem dX11_setsRule_58 : decode cX11_setsRule 58 = .ok (.iastore, 1) := kq.at kqdX11_setsRule_34 14 rfl
theorem dX11_setsRule_59 : decode cX11_setsRule 59 = .ok (.aload_n 0, 1) := kq.at kqdX11_setsRule_34 15 rfl
theorem dX11_setsRule_60 : decode cX11_setsRule 60 = .ok (.getfield 7, 3) := kq.at kqdX11_setsRule_34 16 rfl
theorem dX11_setsRule_63 : decode cX11_setsRule 63 = .ok (.sipush 16510, 3) := kq.at kqdX11_setsRule_34 17 rfl
theorem dX11_setsRule_66 : decode cX11_setsRule 66 = .ok (.dup2, 1) := kq.at kqdX11_setsRule_34 18 rfl
theorem dX11_setsRule_67 : decode cX11_setsRule 67 = .ok (.iaload, 1) := kq.at kqdX11_setsRule_34 19 rfl
theorem dX11_setsRule_68 : decode cX11_setsRule 68 = .ok (.iconst 1, 1) := kq.at kqdX11_setsRule_34 20 rfl
theorem dX11_setsRule_69 : decode cX11_setsRule 69 = .ok (.iadd, 1) := kq.at kqdX11_setsRule_34 21 rfl
theorem dX11_setsRule_70 : decode cX11_setsRule 70 = .ok (.iastore, 1) := kq.at kqdX11_setsRule_34 22 rfl
theorem dX11_setsRule_71 : decode cX11_setsRule 71 = .ok (.aload_n 0, 1) := kq.at kqdX11_setsRule_34 23 rfl
theorem kqdX11_setsRule_72 : kq cX11_setsRule [(72, .getfield 7, 3), (75, .iload_n 2, 1), (76, .bipush 7, 2), (78, .iadd, 1), (79, .iaload, 1), (80, .ireturn, 1)] = true := by decide +kernel
theorem dX11_setsRule_72 : decode cX11_setsRule 72 = .ok (.getfield 7, 3) := kq.at kqdX11_setsRule_72 0 rfl
theorem dX11_setsRule_75 : decode cX11_setsRule 75 = .ok (.iload_n 2, 1) := kq.at kqdX11_setsRule_72 1 rfl
theorem dX11_setsRule_76 : decode cX11_setsRule 76 = .ok (.bipush 7, 2) := kq.at kqdX11_setsRule_72 2 rfl
theorem dX11_setsRule_78 : decode cX11_setsRule 78 = .ok (.iadd, 1) := kq.at kqdX11_setsRule_72 3 rfl
theorem dX11_setsRule_79 : decode cX11_setsRule 79 = .ok (.iaload, 1) := kq.at kqdX11_setsRule_72 4 rfl
theorem dX11_setsRule_80 : decode cX11_setsRule 80 = .ok (.ireturn, 1) := kq.at kqdX11_setsRule_72 5 rfl
theorem kqdX11_wordEnd_0 : kq cX11_wordEnd [(0, .iload_n 1, 1), (1, .istore_n 2, 1), (2, .aload_n 0, 1), (3, .iload_n 2, 1), (4, .invokevirtual 239, 3), (7, .invokestatic 260, 3), (10, .ifCond .eq 9, 3), (13, .iinc 2 1, 3), (16, .goto (-14), 3), (19, .iload_n 2, 1), (20, .ireturn, 1)] = true := by decide +kernel
theorem dX11_wordEnd_0 : decode cX11_wordEnd 0 = .ok (.iload_n 1, 1) := kq.at kqdX11_wordEnd_0 0 rfl
theorem dX11_wordEnd_1 : decode cX11_wordEnd 1 = .ok (.istore_n 2, 1) := kq.at kqdX11_wordEnd_0 1 rfl
theorem dX11_wordEnd_2 : decode cX11_wordEnd 2 = .ok (.aload_n 0, 1) := kq.at kqdX11_wordEnd_0 2 rfl
theorem dX11_wordEnd_3 : decode cX11_wordEnd 3 = .ok (.iload_n 2, 1) := kq.at kqdX11_wordEnd_0 3 rfl
theorem dX11_wordEnd_4 : decode cX11_wordEnd 4 = .ok (.invokevirtual 239, 3) := kq.at kqdX11_wordEnd_0 4 rfl
theorem dX11_wordEnd_7 : decode cX11_wordEnd 7 = .ok (.invokestatic 260, 3) := kq.at kqdX11_wordEnd_0 5 rfl
theorem dX11_wordEnd_10 : decode cX11_wordEnd 10 = .ok (.ifCond .eq 9, 3) := kq.at kqdX11_wordEnd_0 6 rfl
theorem dX11_wordEnd_13 : decode cX11_wordEnd 13 = .ok (.iinc 2 1, 3) := kq.at kqdX11_wordEnd_0 7 rfl
theorem dX11_wordEnd_16 : decode cX11_wordEnd 16 = .ok (.goto (-14), 3) := kq.at kqdX11_wordEnd_0 8 rfl
theorem dX11_wordEnd_19 : decode cX11_wordEnd 19 = .ok (.iload_n 2, 1) := kq.at kqdX11_wordEnd_0 9 rfl
theorem dX11_wordEnd_20 : decode cX11_wordEnd 20 = .ok (.ireturn, 1) := kq.at kqdX11_wordEnd_0 10 rfl
theorem kqdX11_setsWord_0 : kq cX11_setsWord [(0, .iload_n 1, 1), (1, .istore 4, 2), (3, .iload 4, 2), (5, .iload_n 2, 1), (6, .if_icmp .ge 104, 3), (9, .aload_n 0, 1), (10, .iload 4, 2), (12, .iload_n 1, 1), (13, .iload_n 2, 1), (14, .iload_n 3, 1), (15, .invokevirtual 263, 3), (18, .istore 5, 2), (20, .iload 5, 2), (22, .iconst (-1), 1), (23, .if_icmp .ne 11, 3), (26, .aload_n 0, 1), (27, .iconst 3, 1), (28, .iload 4, 2), (30, .invokevirtual 267, 3), (33, .ireturn, 1), (34, .aload_n 0, 1), (35, .iload 4, 2), (37, .invokevirtual 239, 3), (40, .invokestatic 236, 3)] = true := by decide +kernel
theorem dX11_setsWord_0 : decode cX11_setsWord 0 = .ok (.iload_n 1, 1) := kq.at kqdX11_setsWord_0 0 rfl
theorem dX11_setsWord_1 : decode cX11_setsWord 1 = .ok (.istore 4, 2) := kq.at kqdX11_setsWord_0 1 rfl
theorem dX11_setsWord_3 : decode cX11_setsWord 3 = .ok (.iload 4, 2) := kq.at kqdX11_setsWord_0 2 rfl
theorem dX11_setsWord_5 : decode cX11_setsWord 5 = .ok (.iload_n 2, 1) := kq.at kqdX11_setsWord_0 3 rfl
theorem dX11_setsWord_6 : decode cX11_setsWord 6 = .ok (.if_icmp .ge 104, 3) := kq.at kqdX11_setsWord_0 4 rfl
theorem dX11_setsWord_9 : decode cX11_setsWord 9 = .ok (.aload_n 0, 1) := kq.at kqdX11_setsWord_0 5 rfl
theorem dX11_setsWord_10 : decode cX11_setsWord 10 = .ok (.iload 4, 2) := kq.at kqdX11_setsWord_0 6 rfl
theorem dX11_setsWord_12 : decode cX11_setsWord 12 = .ok (.iload_n 1, 1) := kq.at kqdX11_setsWord_0 7 rfl
theorem dX11_setsWord_13 : decode cX11_setsWord 13 = .ok (.iload_n 2, 1) := kq.at kqdX11_setsWord_0 8 rfl
theorem dX11_setsWord_14 : decode cX11_setsWord 14 = .ok (.iload_n 3, 1) := kq.at kqdX11_setsWord_0 9 rfl
theorem dX11_setsWord_15 : decode cX11_setsWord 15 = .ok (.invokevirtual 263, 3) := kq.at kqdX11_setsWord_0 10 rfl
theorem dX11_setsWord_18 : decode cX11_setsWord 18 = .ok (.istore 5, 2) := kq.at kqdX11_setsWord_0 11 rfl
theorem dX11_setsWord_20 : decode cX11_setsWord 20 = .ok (.iload 5, 2) := kq.at kqdX11_setsWord_0 12 rfl
theorem dX11_setsWord_22 : decode cX11_setsWord 22 = .ok (.iconst (-1), 1) := kq.at kqdX11_setsWord_0 13 rfl
theorem dX11_setsWord_23 : decode cX11_setsWord 23 = .ok (.if_icmp .ne 11, 3) := kq.at kqdX11_setsWord_0 14 rfl
theorem dX11_setsWord_26 : decode cX11_setsWord 26 = .ok (.aload_n 0, 1) := kq.at kqdX11_setsWord_0 15 rfl
theorem dX11_setsWord_27 : decode cX11_setsWord 27 = .ok (.iconst 3, 1) := kq.at kqdX11_setsWord_0 16 rfl
theorem dX11_setsWord_28 : decode cX11_setsWord 28 = .ok (.iload 4, 2) := kq.at kqdX11_setsWord_0 17 rfl
theorem dX11_setsWord_30 : decode cX11_setsWord 30 = .ok (.invokevirtual 267, 3) := kq.at kqdX11_setsWord_0 18 rfl
theorem dX11_setsWord_33 : decode cX11_setsWord 33 = .ok (.ireturn, 1) := kq.at kqdX11_setsWord_0 19 rfl
theorem dX11_setsWord_34 : decode cX11_setsWord 34 = .ok (.aload_n 0, 1) := kq.at kqdX11_setsWord_0 20 rfl
theorem dX11_setsWord_35 : decode cX11_setsWord 35 = .ok (.iload 4, 2) := kq.at kqdX11_setsWord_0 21 rfl
theorem dX11_setsWord_37 : decode cX11_setsWord 37 = .ok (.invokevirtual 239, 3) := kq.at kqdX11_setsWord_0 22 rfl
theorem dX11_setsWord_40 : decode cX11_setsWord 40 = .ok (.invokestatic 236, 3) := kq.at kqdX11_setsWord_0 23 rfl
theorem kqdX11_setsWord_43 : kq cX11_setsWord [(43, .ifCond .eq 31, 3), (46, .aload_n 0, 1), (47, .getfield 7, 3), (50, .iconst 1, 1), (51, .iaload, 1), (52, .ifCond .ne 11, 3), (55, .aload_n 0, 1), (56, .iconst 5, 1), (57, .iload 4, 2), (59, .invokevirtual 267, 3), (62, .ireturn, 1), (63, .aload_n 0, 1), (64, .aload_n 0, 1), (65, .getfield 7, 3), (68, .iconst 1, 1), (69, .iaload, 1), (70, .iconst (-1), 1), (71, .invokevirtual 256, 3), (74, .aload_n 0, 1), (75, .getfield 7, 3), (78, .sipush 16511, 3), (81, .dup2, 1), (82, .iaload, 1), (83, .aload_n 0, 1)] = true := by decide +kernel
theorem dX11_setsWord_43 : decode cX11_setsWord 43 = .ok (.ifCond .eq 31, 3) := kq.at kqdX11_setsWord_43 0 rfl
theorem dX11_setsWord_46 : decode cX11_setsWord 46 = .ok (.aload_n 0, 1) := kq.at kqdX11_setsWord_43 1 rfl
theorem dX11_setsWord_47 : decode cX11_setsWord 47 = .ok (.getfield 7, 3) := kq.at kqdX11_setsWord_43 2 rfl
theorem dX11_setsWord_50 : decode cX11_setsWord 50 = .ok (.iconst 1, 1) := kq.at kqdX11_setsWord_43 3 rfl
theorem dX11_setsWord_51 : decode cX11_setsWord 51 = .ok (.iaload, 1) := kq.at kqdX11_setsWord_43 4 rfl
theorem dX11_setsWord_52 : decode cX11_setsWord 52 = .ok (.ifCond .ne 11, 3) := kq.at kqdX11_setsWord_43 5 rfl
theorem dX11_setsWord_55 : decode cX11_setsWord 55 = .ok (.aload_n 0, 1) := kq.at kqdX11_setsWord_43 6 rfl
theorem dX11_setsWord_56 : decode cX11_setsWord 56 = .ok (.iconst 5, 1) := kq.at kqdX11_setsWord_43 7 rfl
theorem dX11_setsWord_57 : decode cX11_setsWord 57 = .ok (.iload 4, 2) := kq.at kqdX11_setsWord_43 8 rfl
theorem dX11_setsWord_59 : decode cX11_setsWord 59 = .ok (.invokevirtual 267, 3) := kq.at kqdX11_setsWord_43 9 rfl
theorem dX11_setsWord_62 : decode cX11_setsWord 62 = .ok (.ireturn, 1) := kq.at kqdX11_setsWord_43 10 rfl
theorem dX11_setsWord_63 : decode cX11_setsWord 63 = .ok (.aload_n 0, 1) := kq.at kqdX11_setsWord_43 11 rfl
theorem dX11_setsWord_64 : decode cX11_setsWord 64 = .ok (.aload_n 0, 1) := kq.at kqdX11_setsWord_43 12 rfl
theorem dX11_setsWord_65 : decode cX11_setsWord 65 = .ok (.getfield 7, 3) := kq.at kqdX11_setsWord_43 13 rfl
theorem dX11_setsWord_68 : decode cX11_setsWord 68 = .ok (.iconst 1, 1) := kq.at kqdX11_setsWord_43 14 rfl
theorem dX11_setsWord_69 : decode cX11_setsWord 69 = .ok (.iaload, 1) := kq.at kqdX11_setsWord_43 15 rfl
theorem dX11_setsWord_70 : decode cX11_setsWord 70 = .ok (.iconst (-1), 1) := kq.at kqdX11_setsWord_43 16 rfl
theorem dX11_setsWord_71 : decode cX11_setsWord 71 = .ok (.invokevirtual 256, 3) := kq.at kqdX11_setsWord_43 17 rfl
theorem dX11_setsWord_74 : decode cX11_setsWord 74 = .ok (.aload_n 0, 1) := kq.at kqdX11_setsWord_43 18 rfl
theorem dX11_setsWord_75 : decode cX11_setsWord 75 = .ok (.getfield 7, 3) := kq.at kqdX11_setsWord_43 19 rfl
theorem dX11_setsWord_78 : decode cX11_setsWord 78 = .ok (.sipush 16511, 3) := kq.at kqdX11_setsWord_43 20 rfl
theorem dX11_setsWord_81 : decode cX11_setsWord 81 = .ok (.dup2, 1) := kq.at kqdX11_setsWord_43 21 rfl
theorem dX11_setsWord_82 : decode cX11_setsWord 82 = .ok (.iaload, 1) := kq.at kqdX11_setsWord_43 22 rfl
theorem dX11_setsWord_83 : decode cX11_setsWord 83 = .ok (.aload_n 0, 1) := kq.at kqdX11_setsWord_43 23 rfl
theorem kqdX11_setsWord_84 : kq cX11_setsWord [(84, .iload 5, 2), (86, .invokevirtual 270, 3), (89, .iadd, 1), (90, .iastore, 1), (91, .iload 4, 2), (93, .aload_n 0, 1), (94, .getfield 7, 3), (97, .iconst 0, 1), (98, .iload 5, 2), (100, .invokestatic 194, 3), (103, .iaload, 1), (104, .iadd, 1), (105, .istore 4, 2), (107, .goto (-104), 3), (110, .iconst 1, 1), (111, .ireturn, 1)] = true := by decide +kernel
theorem dX11_setsWord_84 : decode cX11_setsWord 84 = .ok (.iload 5, 2) := kq.at kqdX11_setsWord_84 0 rfl
theorem dX11_setsWord_86 : decode cX11_setsWord 86 = .ok (.invokevirtual 270, 3) := kq.at kqdX11_setsWord_84 1 rfl
theorem dX11_setsWord_89 : decode cX11_setsWord 89 = .ok (.iadd, 1) := kq.at kqdX11_setsWord_84 2 rfl
theorem dX11_setsWord_90 : decode cX11_setsWord 90 = .ok (.iastore, 1) := kq.at kqdX11_setsWord_84 3 rfl
theorem dX11_setsWord_91 : decode cX11_setsWord 91 = .ok (.iload 4, 2) := kq.at kqdX11_setsWord_84 4 rfl
theorem dX11_setsWord_93 : decode cX11_setsWord 93 = .ok (.aload_n 0, 1) := kq.at kqdX11_setsWord_84 5 rfl
theorem dX11_setsWord_94 : decode cX11_setsWord 94 = .ok (.getfield 7, 3) := kq.at kqdX11_setsWord_84 6 rfl
theorem dX11_setsWord_97 : decode cX11_setsWord 97 = .ok (.iconst 0, 1) := kq.at kqdX11_setsWord_84 7 rfl
theorem dX11_setsWord_98 : decode cX11_setsWord 98 = .ok (.iload 5, 2) := kq.at kqdX11_setsWord_84 8 rfl
theorem dX11_setsWord_100 : decode cX11_setsWord 100 = .ok (.invokestatic 194, 3) := kq.at kqdX11_setsWord_84 9 rfl
theorem dX11_setsWord_103 : decode cX11_setsWord 103 = .ok (.iaload, 1) := kq.at kqdX11_setsWord_84 10 rfl
theorem dX11_setsWord_104 : decode cX11_setsWord 104 = .ok (.iadd, 1) := kq.at kqdX11_setsWord_84 11 rfl
theorem dX11_setsWord_105 : decode cX11_setsWord 105 = .ok (.istore 4, 2) := kq.at kqdX11_setsWord_84 12 rfl
theorem dX11_setsWord_107 : decode cX11_setsWord 107 = .ok (.goto (-104), 3) := kq.at kqdX11_setsWord_84 13 rfl
theorem dX11_setsWord_110 : decode cX11_setsWord 110 = .ok (.iconst 1, 1) := kq.at kqdX11_setsWord_84 14 rfl
theorem dX11_setsWord_111 : decode cX11_setsWord 111 = .ok (.ireturn, 1) := kq.at kqdX11_setsWord_84 15 rfl
theorem kqdX11_figureLetter_0 : kq cX11_figureLetter [(0, .iload_n 0, 1), (1, .bipush 48, 2), (3, .if_icmp .ne 8, 3), (6, .bipush 10, 2), (8, .goto 7, 3), (11, .iload_n 0, 1), (12, .bipush 48, 2), (14, .isub, 1), (15, .ireturn, 1)] = true := by decide +kernel
theorem dX11_figureLetter_0 : decode cX11_figureLetter 0 = .ok (.iload_n 0, 1) := kq.at kqdX11_figureLetter_0 0 rfl
theorem dX11_figureLetter_1 : decode cX11_figureLetter 1 = .ok (.bipush 48, 2) := kq.at kqdX11_figureLetter_0 1 rfl
theorem dX11_figureLetter_3 : decode cX11_figureLetter 3 = .ok (.if_icmp .ne 8, 3) := kq.at kqdX11_figureLetter_0 2 rfl
theorem dX11_figureLetter_6 : decode cX11_figureLetter 6 = .ok (.bipush 10, 2) := kq.at kqdX11_figureLetter_0 3 rfl
theorem dX11_figureLetter_8 : decode cX11_figureLetter 8 = .ok (.goto 7, 3) := kq.at kqdX11_figureLetter_0 4 rfl
theorem dX11_figureLetter_11 : decode cX11_figureLetter 11 = .ok (.iload_n 0, 1) := kq.at kqdX11_figureLetter_0 5 rfl
theorem dX11_figureLetter_12 : decode cX11_figureLetter 12 = .ok (.bipush 48, 2) := kq.at kqdX11_figureLetter_0 6 rfl
theorem dX11_figureLetter_14 : decode cX11_figureLetter 14 = .ok (.isub, 1) := kq.at kqdX11_figureLetter_0 7 rfl
theorem dX11_figureLetter_15 : decode cX11_figureLetter 15 = .ok (.ireturn, 1) := kq.at kqdX11_figureLetter_0 8 rfl
theorem kqdX11_setsAll_0 : kq cX11_setsAll [(0, .aload_n 0, 1), (1, .getfield 7, 3), (4, .sipush 16508, 3), (7, .iconst 0, 1), (8, .iastore, 1), (9, .aload_n 0, 1), (10, .getfield 7, 3), (13, .sipush 16509, 3), (16, .iconst 0, 1), (17, .iastore, 1), (18, .aload_n 0, 1), (19, .getfield 7, 3), (22, .sipush 16510, 3), (25, .iconst 0, 1), (26, .iastore, 1), (27, .aload_n 0, 1), (28, .getfield 7, 3), (31, .sipush 16511, 3), (34, .iconst 0, 1), (35, .iastore, 1), (36, .iconst 0, 1), (37, .istore_n 2, 1), (38, .iload_n 2, 1), (39, .bipush 24, 2)] = true := by decide +kernel
theorem dX11_setsAll_0 : decode cX11_setsAll 0 = .ok (.aload_n 0, 1) := kq.at kqdX11_setsAll_0 0 rfl
theorem dX11_setsAll_1 : decode cX11_setsAll 1 = .ok (.getfield 7, 3) := kq.at kqdX11_setsAll_0 1 rfl
theorem dX11_setsAll_4 : decode cX11_setsAll 4 = .ok (.sipush 16508, 3) := kq.at kqdX11_setsAll_0 2 rfl
theorem dX11_setsAll_7 : decode cX11_setsAll 7 = .ok (.iconst 0, 1) := kq.at kqdX11_setsAll_0 3 rfl
theorem dX11_setsAll_8 : decode cX11_setsAll 8 = .ok (.iastore, 1) := kq.at kqdX11_setsAll_0 4 rfl
theorem dX11_setsAll_9 : decode cX11_setsAll 9 = .ok (.aload_n 0, 1) := kq.at kqdX11_setsAll_0 5 rfl
theorem dX11_setsAll_10 : decode cX11_setsAll 10 = .ok (.getfield 7, 3) := kq.at kqdX11_setsAll_0 6 rfl
theorem dX11_setsAll_13 : decode cX11_setsAll 13 = .ok (.sipush 16509, 3) := kq.at kqdX11_setsAll_0 7 rfl
theorem dX11_setsAll_16 : decode cX11_setsAll 16 = .ok (.iconst 0, 1) := kq.at kqdX11_setsAll_0 8 rfl
theorem dX11_setsAll_17 : decode cX11_setsAll 17 = .ok (.iastore, 1) := kq.at kqdX11_setsAll_0 9 rfl
theorem dX11_setsAll_18 : decode cX11_setsAll 18 = .ok (.aload_n 0, 1) := kq.at kqdX11_setsAll_0 10 rfl
theorem dX11_setsAll_19 : decode cX11_setsAll 19 = .ok (.getfield 7, 3) := kq.at kqdX11_setsAll_0 11 rfl
theorem dX11_setsAll_22 : decode cX11_setsAll 22 = .ok (.sipush 16510, 3) := kq.at kqdX11_setsAll_0 12 rfl
theorem dX11_setsAll_25 : decode cX11_setsAll 25 = .ok (.iconst 0, 1) := kq.at kqdX11_setsAll_0 13 rfl
theorem dX11_setsAll_26 : decode cX11_setsAll 26 = .ok (.iastore, 1) := kq.at kqdX11_setsAll_0 14 rfl
theorem dX11_setsAll_27 : decode cX11_setsAll 27 = .ok (.aload_n 0, 1) := kq.at kqdX11_setsAll_0 15 rfl
theorem dX11_setsAll_28 : decode cX11_setsAll 28 = .ok (.getfield 7, 3) := kq.at kqdX11_setsAll_0 16 rfl
theorem dX11_setsAll_31 : decode cX11_setsAll 31 = .ok (.sipush 16511, 3) := kq.at kqdX11_setsAll_0 17 rfl
theorem dX11_setsAll_34 : decode cX11_setsAll 34 = .ok (.iconst 0, 1) := kq.at kqdX11_setsAll_0 18 rfl
theorem dX11_setsAll_35 : decode cX11_setsAll 35 = .ok (.iastore, 1) := kq.at kqdX11_setsAll_0 19 rfl
theorem dX11_setsAll_36 : decode cX11_setsAll 36 = .ok (.iconst 0, 1) := kq.at kqdX11_setsAll_0 20 rfl
theorem dX11_setsAll_37 : decode cX11_setsAll 37 = .ok (.istore_n 2, 1) := kq.at kqdX11_setsAll_0 21 rfl
theorem dX11_setsAll_38 : decode cX11_setsAll 38 = .ok (.iload_n 2, 1) := kq.at kqdX11_setsAll_0 22 rfl
theorem dX11_setsAll_39 : decode cX11_setsAll 39 = .ok (.bipush 24, 2) := kq.at kqdX11_setsAll_0 23 rfl
theorem kqdX11_setsAll_41 : kq cX11_setsAll [(41, .if_icmp .ge 20, 3), (44, .aload_n 0, 1), (45, .getfield 7, 3), (48, .sipush 18510, 3), (51, .iload_n 2, 1), (52, .iadd, 1), (53, .iconst 0, 1), (54, .iastore, 1), (55, .iinc 2 1, 3), (58, .goto (-20), 3), (61, .iconst 0, 1), (62, .istore_n 2, 1), (63, .iload_n 2, 1), (64, .aload_n 0, 1), (65, .getfield 7, 3), (68, .sipush 16507, 3), (71, .iaload, 1), (72, .if_icmp .ge 228, 3), (75, .aload_n 0, 1), (76, .iload_n 2, 1), (77, .invokevirtual 239, 3), (80, .istore_n 3, 1), (81, .iload_n 3, 1), (82, .invokestatic 273, 3)] = true := by decide +kernel
theorem dX11_setsAll_41 : decode cX11_setsAll 41 = .ok (.if_icmp .ge 20, 3) := kq.at kqdX11_setsAll_41 0 rfl
theorem dX11_setsAll_44 : decode cX11_setsAll 44 = .ok (.aload_n 0, 1) := kq.at kqdX11_setsAll_41 1 rfl
theorem dX11_setsAll_45 : decode cX11_setsAll 45 = .ok (.getfield 7, 3) := kq.at kqdX11_setsAll_41 2 rfl
theorem dX11_setsAll_48 : decode cX11_setsAll 48 = .ok (.sipush 18510, 3) := kq.at kqdX11_setsAll_41 3 rfl
theorem dX11_setsAll_51 : decode cX11_setsAll 51 = .ok (.iload_n 2, 1) := kq.at kqdX11_setsAll_41 4 rfl
theorem dX11_setsAll_52 : decode cX11_setsAll 52 = .ok (.iadd, 1) := kq.at kqdX11_setsAll_41 5 rfl
theorem dX11_setsAll_53 : decode cX11_setsAll 53 = .ok (.iconst 0, 1) := kq.at kqdX11_setsAll_41 6 rfl
theorem dX11_setsAll_54 : decode cX11_setsAll 54 = .ok (.iastore, 1) := kq.at kqdX11_setsAll_41 7 rfl
theorem dX11_setsAll_55 : decode cX11_setsAll 55 = .ok (.iinc 2 1, 3) := kq.at kqdX11_setsAll_41 8 rfl
theorem dX11_setsAll_58 : decode cX11_setsAll 58 = .ok (.goto (-20), 3) := kq.at kqdX11_setsAll_41 9 rfl
theorem dX11_setsAll_61 : decode cX11_setsAll 61 = .ok (.iconst 0, 1) := kq.at kqdX11_setsAll_41 10 rfl
theorem dX11_setsAll_62 : decode cX11_setsAll 62 = .ok (.istore_n 2, 1) := kq.at kqdX11_setsAll_41 11 rfl
theorem dX11_setsAll_63 : decode cX11_setsAll 63 = .ok (.iload_n 2, 1) := kq.at kqdX11_setsAll_41 12 rfl
theorem dX11_setsAll_64 : decode cX11_setsAll 64 = .ok (.aload_n 0, 1) := kq.at kqdX11_setsAll_41 13 rfl
theorem dX11_setsAll_65 : decode cX11_setsAll 65 = .ok (.getfield 7, 3) := kq.at kqdX11_setsAll_41 14 rfl
theorem dX11_setsAll_68 : decode cX11_setsAll 68 = .ok (.sipush 16507, 3) := kq.at kqdX11_setsAll_41 15 rfl
theorem dX11_setsAll_71 : decode cX11_setsAll 71 = .ok (.iaload, 1) := kq.at kqdX11_setsAll_41 16 rfl
theorem dX11_setsAll_72 : decode cX11_setsAll 72 = .ok (.if_icmp .ge 228, 3) := kq.at kqdX11_setsAll_41 17 rfl
theorem dX11_setsAll_75 : decode cX11_setsAll 75 = .ok (.aload_n 0, 1) := kq.at kqdX11_setsAll_41 18 rfl
theorem dX11_setsAll_76 : decode cX11_setsAll 76 = .ok (.iload_n 2, 1) := kq.at kqdX11_setsAll_41 19 rfl
theorem dX11_setsAll_77 : decode cX11_setsAll 77 = .ok (.invokevirtual 239, 3) := kq.at kqdX11_setsAll_41 20 rfl
theorem dX11_setsAll_80 : decode cX11_setsAll 80 = .ok (.istore_n 3, 1) := kq.at kqdX11_setsAll_41 21 rfl
theorem dX11_setsAll_81 : decode cX11_setsAll 81 = .ok (.iload_n 3, 1) := kq.at kqdX11_setsAll_41 22 rfl
theorem dX11_setsAll_82 : decode cX11_setsAll 82 = .ok (.invokestatic 273, 3) := kq.at kqdX11_setsAll_41 23 rfl
theorem kqdX11_setsAll_85 : kq cX11_setsAll [(85, .ifCond .eq 9, 3), (88, .iinc 2 1, 3), (91, .goto (-28), 3), (94, .iload_n 3, 1), (95, .invokestatic 260, 3), (98, .ifCond .ne 17, 3), (101, .iload_n 3, 1), (102, .invokestatic 276, 3), (105, .ifCond .ne 10, 3), (108, .aload_n 0, 1), (109, .iconst 1, 1), (110, .iload_n 2, 1), (111, .invokevirtual 267, 3), (114, .ireturn, 1), (115, .iload_n 2, 1), (116, .ifCond .eq 16, 3), (119, .aload_n 0, 1), (120, .iload_n 2, 1), (121, .iconst 1, 1), (122, .isub, 1), (123, .invokevirtual 239, 3), (126, .invokestatic 273, 3), (129, .ifCond .eq 57, 3), (132, .aload_n 0, 1)] = true := by decide +kernel
theorem dX11_setsAll_85 : decode cX11_setsAll 85 = .ok (.ifCond .eq 9, 3) := kq.at kqdX11_setsAll_85 0 rfl
theorem dX11_setsAll_88 : decode cX11_setsAll 88 = .ok (.iinc 2 1, 3) := kq.at kqdX11_setsAll_85 1 rfl
theorem dX11_setsAll_91 : decode cX11_setsAll 91 = .ok (.goto (-28), 3) := kq.at kqdX11_setsAll_85 2 rfl
theorem dX11_setsAll_94 : decode cX11_setsAll 94 = .ok (.iload_n 3, 1) := kq.at kqdX11_setsAll_85 3 rfl
theorem dX11_setsAll_95 : decode cX11_setsAll 95 = .ok (.invokestatic 260, 3) := kq.at kqdX11_setsAll_85 4 rfl
theorem dX11_setsAll_98 : decode cX11_setsAll 98 = .ok (.ifCond .ne 17, 3) := kq.at kqdX11_setsAll_85 5 rfl
theorem dX11_setsAll_101 : decode cX11_setsAll 101 = .ok (.iload_n 3, 1) := kq.at kqdX11_setsAll_85 6 rfl
theorem dX11_setsAll_102 : decode cX11_setsAll 102 = .ok (.invokestatic 276, 3) := kq.at kqdX11_setsAll_85 7 rfl
theorem dX11_setsAll_105 : decode cX11_setsAll 105 = .ok (.ifCond .ne 10, 3) := kq.at kqdX11_setsAll_85 8 rfl
theorem dX11_setsAll_108 : decode cX11_setsAll 108 = .ok (.aload_n 0, 1) := kq.at kqdX11_setsAll_85 9 rfl
theorem dX11_setsAll_109 : decode cX11_setsAll 109 = .ok (.iconst 1, 1) := kq.at kqdX11_setsAll_85 10 rfl
theorem dX11_setsAll_110 : decode cX11_setsAll 110 = .ok (.iload_n 2, 1) := kq.at kqdX11_setsAll_85 11 rfl
theorem dX11_setsAll_111 : decode cX11_setsAll 111 = .ok (.invokevirtual 267, 3) := kq.at kqdX11_setsAll_85 12 rfl
theorem dX11_setsAll_114 : decode cX11_setsAll 114 = .ok (.ireturn, 1) := kq.at kqdX11_setsAll_85 13 rfl
theorem dX11_setsAll_115 : decode cX11_setsAll 115 = .ok (.iload_n 2, 1) := kq.at kqdX11_setsAll_85 14 rfl
theorem dX11_setsAll_116 : decode cX11_setsAll 116 = .ok (.ifCond .eq 16, 3) := kq.at kqdX11_setsAll_85 15 rfl
theorem dX11_setsAll_119 : decode cX11_setsAll 119 = .ok (.aload_n 0, 1) := kq.at kqdX11_setsAll_85 16 rfl
theorem dX11_setsAll_120 : decode cX11_setsAll 120 = .ok (.iload_n 2, 1) := kq.at kqdX11_setsAll_85 17 rfl
theorem dX11_setsAll_121 : decode cX11_setsAll 121 = .ok (.iconst 1, 1) := kq.at kqdX11_setsAll_85 18 rfl
theorem dX11_setsAll_122 : decode cX11_setsAll 122 = .ok (.isub, 1) := kq.at kqdX11_setsAll_85 19 rfl
theorem dX11_setsAll_123 : decode cX11_setsAll 123 = .ok (.invokevirtual 239, 3) := kq.at kqdX11_setsAll_85 20 rfl
theorem dX11_setsAll_126 : decode cX11_setsAll 126 = .ok (.invokestatic 273, 3) := kq.at kqdX11_setsAll_85 21 rfl
theorem dX11_setsAll_129 : decode cX11_setsAll 129 = .ok (.ifCond .eq 57, 3) := kq.at kqdX11_setsAll_85 22 rfl
theorem dX11_setsAll_132 : decode cX11_setsAll 132 = .ok (.aload_n 0, 1) := kq.at kqdX11_setsAll_85 23 rfl
theorem kqdX11_setsAll_133 : kq cX11_setsAll [(133, .getfield 7, 3), (136, .sipush 16509, 3), (139, .iaload, 1), (140, .ifCond .le 9, 3), (143, .aload_n 0, 1), (144, .iconst 0, 1), (145, .iconst (-1), 1), (146, .invokevirtual 256, 3), (149, .aload_n 0, 1), (150, .getfield 7, 3), (153, .sipush 18350, 3), (156, .aload_n 0, 1), (157, .getfield 7, 3), (160, .sipush 16509, 3), (163, .iaload, 1), (164, .iadd, 1), (165, .aload_n 0, 1), (166, .getfield 7, 3), (169, .sipush 16508, 3), (172, .iaload, 1), (173, .iastore, 1), (174, .aload_n 0, 1), (175, .getfield 7, 3), (178, .sipush 16509, 3)] = true := by decide +kernel
theorem dX11_setsAll_133 : decode cX11_setsAll 133 = .ok (.getfield 7, 3) := kq.at kqdX11_setsAll_133 0 rfl
theorem dX11_setsAll_136 : decode cX11_setsAll 136 = .ok (.sipush 16509, 3) := kq.at kqdX11_setsAll_133 1 rfl
theorem dX11_setsAll_139 : decode cX11_setsAll 139 = .ok (.iaload, 1) := kq.at kqdX11_setsAll_133 2 rfl
theorem dX11_setsAll_140 : decode cX11_setsAll 140 = .ok (.ifCond .le 9, 3) := kq.at kqdX11_setsAll_133 3 rfl
theorem dX11_setsAll_143 : decode cX11_setsAll 143 = .ok (.aload_n 0, 1) := kq.at kqdX11_setsAll_133 4 rfl
theorem dX11_setsAll_144 : decode cX11_setsAll 144 = .ok (.iconst 0, 1) := kq.at kqdX11_setsAll_133 5 rfl
theorem dX11_setsAll_145 : decode cX11_setsAll 145 = .ok (.iconst (-1), 1) := kq.at kqdX11_setsAll_133 6 rfl
theorem dX11_setsAll_146 : decode cX11_setsAll 146 = .ok (.invokevirtual 256, 3) := kq.at kqdX11_setsAll_133 7 rfl
theorem dX11_setsAll_149 : decode cX11_setsAll 149 = .ok (.aload_n 0, 1) := kq.at kqdX11_setsAll_133 8 rfl
theorem dX11_setsAll_150 : decode cX11_setsAll 150 = .ok (.getfield 7, 3) := kq.at kqdX11_setsAll_133 9 rfl
theorem dX11_setsAll_153 : decode cX11_setsAll 153 = .ok (.sipush 18350, 3) := kq.at kqdX11_setsAll_133 10 rfl
theorem dX11_setsAll_156 : decode cX11_setsAll 156 = .ok (.aload_n 0, 1) := kq.at kqdX11_setsAll_133 11 rfl
theorem dX11_setsAll_157 : decode cX11_setsAll 157 = .ok (.getfield 7, 3) := kq.at kqdX11_setsAll_133 12 rfl
theorem dX11_setsAll_160 : decode cX11_setsAll 160 = .ok (.sipush 16509, 3) := kq.at kqdX11_setsAll_133 13 rfl
theorem dX11_setsAll_163 : decode cX11_setsAll 163 = .ok (.iaload, 1) := kq.at kqdX11_setsAll_133 14 rfl
theorem dX11_setsAll_164 : decode cX11_setsAll 164 = .ok (.iadd, 1) := kq.at kqdX11_setsAll_133 15 rfl
theorem dX11_setsAll_165 : decode cX11_setsAll 165 = .ok (.aload_n 0, 1) := kq.at kqdX11_setsAll_133 16 rfl
theorem dX11_setsAll_166 : decode cX11_setsAll 166 = .ok (.getfield 7, 3) := kq.at kqdX11_setsAll_133 17 rfl
theorem dX11_setsAll_169 : decode cX11_setsAll 169 = .ok (.sipush 16508, 3) := kq.at kqdX11_setsAll_133 18 rfl
theorem dX11_setsAll_172 : decode cX11_setsAll 172 = .ok (.iaload, 1) := kq.at kqdX11_setsAll_133 19 rfl
theorem dX11_setsAll_173 : decode cX11_setsAll 173 = .ok (.iastore, 1) := kq.at kqdX11_setsAll_133 20 rfl
theorem dX11_setsAll_174 : decode cX11_setsAll 174 = .ok (.aload_n 0, 1) := kq.at kqdX11_setsAll_133 21 rfl
theorem dX11_setsAll_175 : decode cX11_setsAll 175 = .ok (.getfield 7, 3) := kq.at kqdX11_setsAll_133 22 rfl
theorem dX11_setsAll_178 : decode cX11_setsAll 178 = .ok (.sipush 16509, 3) := kq.at kqdX11_setsAll_133 23 rfl
theorem kqdX11_setsAll_181 : kq cX11_setsAll [(181, .dup2, 1), (182, .iaload, 1), (183, .iconst 1, 1), (184, .iadd, 1), (185, .iastore, 1), (186, .iload_n 3, 1), (187, .invokestatic 260, 3), (190, .ifCond .eq 28, 3), (193, .aload_n 0, 1), (194, .iload_n 2, 1), (195, .aload_n 0, 1), (196, .iload_n 2, 1), (197, .invokevirtual 279, 3), (200, .iload_n 1, 1), (201, .invokevirtual 282, 3), (204, .ifCond .ne 5, 3), (207, .iconst 0, 1), (208, .ireturn, 1), (209, .aload_n 0, 1), (210, .iload_n 2, 1), (211, .invokevirtual 279, 3), (214, .istore_n 2, 1), (215, .goto (-152), 3), (218, .aload_n 0, 1)] = true := by decide +kernel
theorem dX11_setsAll_181 : decode cX11_setsAll 181 = .ok (.dup2, 1) := kq.at kqdX11_setsAll_181 0 rfl
theorem dX11_setsAll_182 : decode cX11_setsAll 182 = .ok (.iaload, 1) := kq.at kqdX11_setsAll_181 1 rfl
theorem dX11_setsAll_183 : decode cX11_setsAll 183 = .ok (.iconst 1, 1) := kq.at kqdX11_setsAll_181 2 rfl
theorem dX11_setsAll_184 : decode cX11_setsAll 184 = .ok (.iadd, 1) := kq.at kqdX11_setsAll_181 3 rfl
theorem dX11_setsAll_185 : decode cX11_setsAll 185 = .ok (.iastore, 1) := kq.at kqdX11_setsAll_181 4 rfl
theorem dX11_setsAll_186 : decode cX11_setsAll 186 = .ok (.iload_n 3, 1) := kq.at kqdX11_setsAll_181 5 rfl
theorem dX11_setsAll_187 : decode cX11_setsAll 187 = .ok (.invokestatic 260, 3) := kq.at kqdX11_setsAll_181 6 rfl
theorem dX11_setsAll_190 : decode cX11_setsAll 190 = .ok (.ifCond .eq 28, 3) := kq.at kqdX11_setsAll_181 7 rfl
theorem dX11_setsAll_193 : decode cX11_setsAll 193 = .ok (.aload_n 0, 1) := kq.at kqdX11_setsAll_181 8 rfl
theorem dX11_setsAll_194 : decode cX11_setsAll 194 = .ok (.iload_n 2, 1) := kq.at kqdX11_setsAll_181 9 rfl
theorem dX11_setsAll_195 : decode cX11_setsAll 195 = .ok (.aload_n 0, 1) := kq.at kqdX11_setsAll_181 10 rfl
theorem dX11_setsAll_196 : decode cX11_setsAll 196 = .ok (.iload_n 2, 1) := kq.at kqdX11_setsAll_181 11 rfl
theorem dX11_setsAll_197 : decode cX11_setsAll 197 = .ok (.invokevirtual 279, 3) := kq.at kqdX11_setsAll_181 12 rfl
theorem dX11_setsAll_200 : decode cX11_setsAll 200 = .ok (.iload_n 1, 1) := kq.at kqdX11_setsAll_181 13 rfl
theorem dX11_setsAll_201 : decode cX11_setsAll 201 = .ok (.invokevirtual 282, 3) := kq.at kqdX11_setsAll_181 14 rfl
theorem dX11_setsAll_204 : decode cX11_setsAll 204 = .ok (.ifCond .ne 5, 3) := kq.at kqdX11_setsAll_181 15 rfl
theorem dX11_setsAll_207 : decode cX11_setsAll 207 = .ok (.iconst 0, 1) := kq.at kqdX11_setsAll_181 16 rfl
theorem dX11_setsAll_208 : decode cX11_setsAll 208 = .ok (.ireturn, 1) := kq.at kqdX11_setsAll_181 17 rfl
theorem dX11_setsAll_209 : decode cX11_setsAll 209 = .ok (.aload_n 0, 1) := kq.at kqdX11_setsAll_181 18 rfl
theorem dX11_setsAll_210 : decode cX11_setsAll 210 = .ok (.iload_n 2, 1) := kq.at kqdX11_setsAll_181 19 rfl
theorem dX11_setsAll_211 : decode cX11_setsAll 211 = .ok (.invokevirtual 279, 3) := kq.at kqdX11_setsAll_181 20 rfl
theorem dX11_setsAll_214 : decode cX11_setsAll 214 = .ok (.istore_n 2, 1) := kq.at kqdX11_setsAll_181 21 rfl
theorem dX11_setsAll_215 : decode cX11_setsAll 215 = .ok (.goto (-152), 3) := kq.at kqdX11_setsAll_181 22 rfl
theorem dX11_setsAll_218 : decode cX11_setsAll 218 = .ok (.aload_n 0, 1) := kq.at kqdX11_setsAll_181 23 rfl
theorem kqdX11_setsAll_219 : kq cX11_setsAll [(219, .getfield 7, 3), (222, .iconst 2, 1), (223, .iaload, 1), (224, .ifCond .ne 10, 3), (227, .aload_n 0, 1), (228, .iconst 4, 1), (229, .iload_n 2, 1), (230, .invokevirtual 267, 3), (233, .ireturn, 1), (234, .aload_n 0, 1), (235, .aload_n 0, 1), (236, .getfield 7, 3), (239, .iconst 2, 1), (240, .iaload, 1), (241, .iconst (-1), 1), (242, .invokevirtual 256, 3), (245, .aload_n 0, 1), (246, .iload_n 2, 1), (247, .invokevirtual 239, 3), (250, .invokestatic 276, 3), (253, .ifCond .eq 44, 3), (256, .aload_n 0, 1), (257, .aload_n 0, 1), (258, .iload_n 2, 1)] = true := by decide +kernel
theorem dX11_setsAll_219 : decode cX11_setsAll 219 = .ok (.getfield 7, 3) := kq.at kqdX11_setsAll_219 0 rfl
theorem dX11_setsAll_222 : decode cX11_setsAll 222 = .ok (.iconst 2, 1) := kq.at kqdX11_setsAll_219 1 rfl
theorem dX11_setsAll_223 : decode cX11_setsAll 223 = .ok (.iaload, 1) := kq.at kqdX11_setsAll_219 2 rfl
theorem dX11_setsAll_224 : decode cX11_setsAll 224 = .ok (.ifCond .ne 10, 3) := kq.at kqdX11_setsAll_219 3 rfl
theorem dX11_setsAll_227 : decode cX11_setsAll 227 = .ok (.aload_n 0, 1) := kq.at kqdX11_setsAll_219 4 rfl
theorem dX11_setsAll_228 : decode cX11_setsAll 228 = .ok (.iconst 4, 1) := kq.at kqdX11_setsAll_219 5 rfl
theorem dX11_setsAll_229 : decode cX11_setsAll 229 = .ok (.iload_n 2, 1) := kq.at kqdX11_setsAll_219 6 rfl
theorem dX11_setsAll_230 : decode cX11_setsAll 230 = .ok (.invokevirtual 267, 3) := kq.at kqdX11_setsAll_219 7 rfl
theorem dX11_setsAll_233 : decode cX11_setsAll 233 = .ok (.ireturn, 1) := kq.at kqdX11_setsAll_219 8 rfl
theorem dX11_setsAll_234 : decode cX11_setsAll 234 = .ok (.aload_n 0, 1) := kq.at kqdX11_setsAll_219 9 rfl
theorem dX11_setsAll_235 : decode cX11_setsAll 235 = .ok (.aload_n 0, 1) := kq.at kqdX11_setsAll_219 10 rfl
theorem dX11_setsAll_236 : decode cX11_setsAll 236 = .ok (.getfield 7, 3) := kq.at kqdX11_setsAll_219 11 rfl
theorem dX11_setsAll_239 : decode cX11_setsAll 239 = .ok (.iconst 2, 1) := kq.at kqdX11_setsAll_219 12 rfl
theorem dX11_setsAll_240 : decode cX11_setsAll 240 = .ok (.iaload, 1) := kq.at kqdX11_setsAll_219 13 rfl
theorem dX11_setsAll_241 : decode cX11_setsAll 241 = .ok (.iconst (-1), 1) := kq.at kqdX11_setsAll_219 14 rfl
theorem dX11_setsAll_242 : decode cX11_setsAll 242 = .ok (.invokevirtual 256, 3) := kq.at kqdX11_setsAll_219 15 rfl
theorem dX11_setsAll_245 : decode cX11_setsAll 245 = .ok (.aload_n 0, 1) := kq.at kqdX11_setsAll_219 16 rfl
theorem dX11_setsAll_246 : decode cX11_setsAll 246 = .ok (.iload_n 2, 1) := kq.at kqdX11_setsAll_219 17 rfl
theorem dX11_setsAll_247 : decode cX11_setsAll 247 = .ok (.invokevirtual 239, 3) := kq.at kqdX11_setsAll_219 18 rfl
theorem dX11_setsAll_250 : decode cX11_setsAll 250 = .ok (.invokestatic 276, 3) := kq.at kqdX11_setsAll_219 19 rfl
theorem dX11_setsAll_253 : decode cX11_setsAll 253 = .ok (.ifCond .eq 44, 3) := kq.at kqdX11_setsAll_219 20 rfl
theorem dX11_setsAll_256 : decode cX11_setsAll 256 = .ok (.aload_n 0, 1) := kq.at kqdX11_setsAll_219 21 rfl
theorem dX11_setsAll_257 : decode cX11_setsAll 257 = .ok (.aload_n 0, 1) := kq.at kqdX11_setsAll_219 22 rfl
theorem dX11_setsAll_258 : decode cX11_setsAll 258 = .ok (.iload_n 2, 1) := kq.at kqdX11_setsAll_219 23 rfl
theorem kqdX11_setsAll_259 : kq cX11_setsAll [(259, .invokevirtual 239, 3), (262, .invokestatic 285, 3), (265, .iload_n 1, 1), (266, .invokevirtual 288, 3), (269, .istore 4, 2), (271, .iload 4, 2), (273, .iconst (-1), 1), (274, .if_icmp .ne 10, 3), (277, .aload_n 0, 1), (278, .iconst 4, 1), (279, .iload_n 2, 1), (280, .invokevirtual 267, 3), (283, .ireturn, 1), (284, .aload_n 0, 1), (285, .iload 4, 2), (287, .invokevirtual 270, 3), (290, .pop, 1), (291, .iinc 2 1, 3), (294, .goto (-49), 3), (297, .goto (-234), 3), (300, .iconst 1, 1), (301, .ireturn, 1)] = true := by decide +kernel
theorem dX11_setsAll_259 : decode cX11_setsAll 259 = .ok (.invokevirtual 239, 3) := kq.at kqdX11_setsAll_259 0 rfl
theorem dX11_setsAll_262 : decode cX11_setsAll 262 = .ok (.invokestatic 285, 3) := kq.at kqdX11_setsAll_259 1 rfl
theorem dX11_setsAll_265 : decode cX11_setsAll 265 = .ok (.iload_n 1, 1) := kq.at kqdX11_setsAll_259 2 rfl
theorem dX11_setsAll_266 : decode cX11_setsAll 266 = .ok (.invokevirtual 288, 3) := kq.at kqdX11_setsAll_259 3 rfl
theorem dX11_setsAll_269 : decode cX11_setsAll 269 = .ok (.istore 4, 2) := kq.at kqdX11_setsAll_259 4 rfl
theorem dX11_setsAll_271 : decode cX11_setsAll 271 = .ok (.iload 4, 2) := kq.at kqdX11_setsAll_259 5 rfl
theorem dX11_setsAll_273 : decode cX11_setsAll 273 = .ok (.iconst (-1), 1) := kq.at kqdX11_setsAll_259 6 rfl
theorem dX11_setsAll_274 : decode cX11_setsAll 274 = .ok (.if_icmp .ne 10, 3) := kq.at kqdX11_setsAll_259 7 rfl
theorem dX11_setsAll_277 : decode cX11_setsAll 277 = .ok (.aload_n 0, 1) := kq.at kqdX11_setsAll_259 8 rfl
theorem dX11_setsAll_278 : decode cX11_setsAll 278 = .ok (.iconst 4, 1) := kq.at kqdX11_setsAll_259 9 rfl
theorem dX11_setsAll_279 : decode cX11_setsAll 279 = .ok (.iload_n 2, 1) := kq.at kqdX11_setsAll_259 10 rfl
theorem dX11_setsAll_280 : decode cX11_setsAll 280 = .ok (.invokevirtual 267, 3) := kq.at kqdX11_setsAll_259 11 rfl
theorem dX11_setsAll_283 : decode cX11_setsAll 283 = .ok (.ireturn, 1) := kq.at kqdX11_setsAll_259 12 rfl
theorem dX11_setsAll_284 : decode cX11_setsAll 284 = .ok (.aload_n 0, 1) := kq.at kqdX11_setsAll_259 13 rfl
theorem dX11_setsAll_285 : decode cX11_setsAll 285 = .ok (.iload 4, 2) := kq.at kqdX11_setsAll_259 14 rfl
theorem dX11_setsAll_287 : decode cX11_setsAll 287 = .ok (.invokevirtual 270, 3) := kq.at kqdX11_setsAll_259 15 rfl
theorem dX11_setsAll_290 : decode cX11_setsAll 290 = .ok (.pop, 1) := kq.at kqdX11_setsAll_259 16 rfl
theorem dX11_setsAll_291 : decode cX11_setsAll 291 = .ok (.iinc 2 1, 3) := kq.at kqdX11_setsAll_259 17 rfl
theorem dX11_setsAll_294 : decode cX11_setsAll 294 = .ok (.goto (-49), 3) := kq.at kqdX11_setsAll_259 18 rfl
theorem dX11_setsAll_297 : decode cX11_setsAll 297 = .ok (.goto (-234), 3) := kq.at kqdX11_setsAll_259 19 rfl
theorem dX11_setsAll_300 : decode cX11_setsAll 300 = .ok (.iconst 1, 1) := kq.at kqdX11_setsAll_259 20 rfl
theorem dX11_setsAll_301 : decode cX11_setsAll 301 = .ok (.ireturn, 1) := kq.at kqdX11_setsAll_259 21 rfl
theorem kqdX11_takesSet_0 : kq cX11_takesSet [(0, .bipush 7, 2), (2, .istore_n 1, 1), (3, .iload_n 1, 1), (4, .bipush 12, 2), (6, .if_icmp .ge 25, 3), (9, .aload_n 0, 1), (10, .getfield 7, 3), (13, .iload_n 1, 1), (14, .aload_n 0, 1), (15, .getfield 7, 3), (18, .sipush 16500, 3), (21, .iload_n 1, 1), (22, .iadd, 1), (23, .iaload, 1), (24, .iastore, 1), (25, .iinc 1 1, 3), (28, .goto (-25), 3), (31, .sipush 300, 3), (34, .istore_n 1, 1), (35, .iload_n 1, 1), (36, .sipush 3300, 3), (39, .if_icmp .ge 25, 3), (42, .aload_n 0, 1), (43, .getfield 7, 3)] = true := by decide +kernel
theorem dX11_takesSet_0 : decode cX11_takesSet 0 = .ok (.bipush 7, 2) := kq.at kqdX11_takesSet_0 0 rfl
theorem dX11_takesSet_2 : decode cX11_takesSet 2 = .ok (.istore_n 1, 1) := kq.at kqdX11_takesSet_0 1 rfl
theorem dX11_takesSet_3 : decode cX11_takesSet 3 = .ok (.iload_n 1, 1) := kq.at kqdX11_takesSet_0 2 rfl
theorem dX11_takesSet_4 : decode cX11_takesSet 4 = .ok (.bipush 12, 2) := kq.at kqdX11_takesSet_0 3 rfl
theorem dX11_takesSet_6 : decode cX11_takesSet 6 = .ok (.if_icmp .ge 25, 3) := kq.at kqdX11_takesSet_0 4 rfl
theorem dX11_takesSet_9 : decode cX11_takesSet 9 = .ok (.aload_n 0, 1) := kq.at kqdX11_takesSet_0 5 rfl
theorem dX11_takesSet_10 : decode cX11_takesSet 10 = .ok (.getfield 7, 3) := kq.at kqdX11_takesSet_0 6 rfl
theorem dX11_takesSet_13 : decode cX11_takesSet 13 = .ok (.iload_n 1, 1) := kq.at kqdX11_takesSet_0 7 rfl
theorem dX11_takesSet_14 : decode cX11_takesSet 14 = .ok (.aload_n 0, 1) := kq.at kqdX11_takesSet_0 8 rfl
theorem dX11_takesSet_15 : decode cX11_takesSet 15 = .ok (.getfield 7, 3) := kq.at kqdX11_takesSet_0 9 rfl
theorem dX11_takesSet_18 : decode cX11_takesSet 18 = .ok (.sipush 16500, 3) := kq.at kqdX11_takesSet_0 10 rfl
theorem dX11_takesSet_21 : decode cX11_takesSet 21 = .ok (.iload_n 1, 1) := kq.at kqdX11_takesSet_0 11 rfl
theorem dX11_takesSet_22 : decode cX11_takesSet 22 = .ok (.iadd, 1) := kq.at kqdX11_takesSet_0 12 rfl
theorem dX11_takesSet_23 : decode cX11_takesSet 23 = .ok (.iaload, 1) := kq.at kqdX11_takesSet_0 13 rfl
theorem dX11_takesSet_24 : decode cX11_takesSet 24 = .ok (.iastore, 1) := kq.at kqdX11_takesSet_0 14 rfl
theorem dX11_takesSet_25 : decode cX11_takesSet 25 = .ok (.iinc 1 1, 3) := kq.at kqdX11_takesSet_0 15 rfl
theorem dX11_takesSet_28 : decode cX11_takesSet 28 = .ok (.goto (-25), 3) := kq.at kqdX11_takesSet_0 16 rfl
theorem dX11_takesSet_31 : decode cX11_takesSet 31 = .ok (.sipush 300, 3) := kq.at kqdX11_takesSet_0 17 rfl
theorem dX11_takesSet_34 : decode cX11_takesSet 34 = .ok (.istore_n 1, 1) := kq.at kqdX11_takesSet_0 18 rfl
theorem dX11_takesSet_35 : decode cX11_takesSet 35 = .ok (.iload_n 1, 1) := kq.at kqdX11_takesSet_0 19 rfl
theorem dX11_takesSet_36 : decode cX11_takesSet 36 = .ok (.sipush 3300, 3) := kq.at kqdX11_takesSet_0 20 rfl
theorem dX11_takesSet_39 : decode cX11_takesSet 39 = .ok (.if_icmp .ge 25, 3) := kq.at kqdX11_takesSet_0 21 rfl
theorem dX11_takesSet_42 : decode cX11_takesSet 42 = .ok (.aload_n 0, 1) := kq.at kqdX11_takesSet_0 22 rfl
theorem dX11_takesSet_43 : decode cX11_takesSet 43 = .ok (.getfield 7, 3) := kq.at kqdX11_takesSet_0 23 rfl
theorem kqdX11_takesSet_46 : kq cX11_takesSet [(46, .iload_n 1, 1), (47, .aload_n 0, 1), (48, .getfield 7, 3), (51, .sipush 16500, 3), (54, .iload_n 1, 1), (55, .iadd, 1), (56, .iaload, 1), (57, .iastore, 1), (58, .iinc 1 1, 3), (61, .goto (-26), 3), (64, .return_, 1)] = true := by decide +kernel
theorem dX11_takesSet_46 : decode cX11_takesSet 46 = .ok (.iload_n 1, 1) := kq.at kqdX11_takesSet_46 0 rfl
theorem dX11_takesSet_47 : decode cX11_takesSet 47 = .ok (.aload_n 0, 1) := kq.at kqdX11_takesSet_46 1 rfl
theorem dX11_takesSet_48 : decode cX11_takesSet 48 = .ok (.getfield 7, 3) := kq.at kqdX11_takesSet_46 2 rfl
theorem dX11_takesSet_51 : decode cX11_takesSet 51 = .ok (.sipush 16500, 3) := kq.at kqdX11_takesSet_46 3 rfl
theorem dX11_takesSet_54 : decode cX11_takesSet 54 = .ok (.iload_n 1, 1) := kq.at kqdX11_takesSet_46 4 rfl
theorem dX11_takesSet_55 : decode cX11_takesSet 55 = .ok (.iadd, 1) := kq.at kqdX11_takesSet_46 5 rfl
theorem dX11_takesSet_56 : decode cX11_takesSet 56 = .ok (.iaload, 1) := kq.at kqdX11_takesSet_46 6 rfl
theorem dX11_takesSet_57 : decode cX11_takesSet 57 = .ok (.iastore, 1) := kq.at kqdX11_takesSet_46 7 rfl
theorem dX11_takesSet_58 : decode cX11_takesSet 58 = .ok (.iinc 1 1, 3) := kq.at kqdX11_takesSet_46 8 rfl
theorem dX11_takesSet_61 : decode cX11_takesSet 61 = .ok (.goto (-26), 3) := kq.at kqdX11_takesSet_46 9 rfl
theorem dX11_takesSet_64 : decode cX11_takesSet 64 = .ok (.return_, 1) := kq.at kqdX11_takesSet_46 10 rfl
theorem kqdX11_laysBytes_0 : kq cX11_laysBytes [(0, .aload_n 0, 1), (1, .getfield 7, 3), (4, .sipush 16507, 3), (7, .aload_n 0, 1), (8, .getfield 7, 3), (11, .bipush 7, 2), (13, .iaload, 1), (14, .iastore, 1), (15, .iconst 0, 1), (16, .istore_n 1, 1), (17, .iload_n 1, 1), (18, .aload_n 0, 1), (19, .getfield 7, 3), (22, .bipush 7, 2), (24, .iaload, 1), (25, .if_icmp .ge 29, 3), (28, .aload_n 0, 1), (29, .getfield 7, 3), (32, .sipush 16800, 3), (35, .iload_n 1, 1), (36, .iadd, 1), (37, .aload_n 0, 1), (38, .getfield 7, 3), (41, .sipush 300, 3)] = true := by decide +kernel
theorem dX11_laysBytes_0 : decode cX11_laysBytes 0 = .ok (.aload_n 0, 1) := kq.at kqdX11_laysBytes_0 0 rfl
theorem dX11_laysBytes_1 : decode cX11_laysBytes 1 = .ok (.getfield 7, 3) := kq.at kqdX11_laysBytes_0 1 rfl
theorem dX11_laysBytes_4 : decode cX11_laysBytes 4 = .ok (.sipush 16507, 3) := kq.at kqdX11_laysBytes_0 2 rfl
theorem dX11_laysBytes_7 : decode cX11_laysBytes 7 = .ok (.aload_n 0, 1) := kq.at kqdX11_laysBytes_0 3 rfl
theorem dX11_laysBytes_8 : decode cX11_laysBytes 8 = .ok (.getfield 7, 3) := kq.at kqdX11_laysBytes_0 4 rfl
theorem dX11_laysBytes_11 : decode cX11_laysBytes 11 = .ok (.bipush 7, 2) := kq.at kqdX11_laysBytes_0 5 rfl
theorem dX11_laysBytes_13 : decode cX11_laysBytes 13 = .ok (.iaload, 1) := kq.at kqdX11_laysBytes_0 6 rfl
theorem dX11_laysBytes_14 : decode cX11_laysBytes 14 = .ok (.iastore, 1) := kq.at kqdX11_laysBytes_0 7 rfl
theorem dX11_laysBytes_15 : decode cX11_laysBytes 15 = .ok (.iconst 0, 1) := kq.at kqdX11_laysBytes_0 8 rfl
theorem dX11_laysBytes_16 : decode cX11_laysBytes 16 = .ok (.istore_n 1, 1) := kq.at kqdX11_laysBytes_0 9 rfl
theorem dX11_laysBytes_17 : decode cX11_laysBytes 17 = .ok (.iload_n 1, 1) := kq.at kqdX11_laysBytes_0 10 rfl
theorem dX11_laysBytes_18 : decode cX11_laysBytes 18 = .ok (.aload_n 0, 1) := kq.at kqdX11_laysBytes_0 11 rfl
theorem dX11_laysBytes_19 : decode cX11_laysBytes 19 = .ok (.getfield 7, 3) := kq.at kqdX11_laysBytes_0 12 rfl
theorem dX11_laysBytes_22 : decode cX11_laysBytes 22 = .ok (.bipush 7, 2) := kq.at kqdX11_laysBytes_0 13 rfl
theorem dX11_laysBytes_24 : decode cX11_laysBytes 24 = .ok (.iaload, 1) := kq.at kqdX11_laysBytes_0 14 rfl
theorem dX11_laysBytes_25 : decode cX11_laysBytes 25 = .ok (.if_icmp .ge 29, 3) := kq.at kqdX11_laysBytes_0 15 rfl
theorem dX11_laysBytes_28 : decode cX11_laysBytes 28 = .ok (.aload_n 0, 1) := kq.at kqdX11_laysBytes_0 16 rfl
theorem dX11_laysBytes_29 : decode cX11_laysBytes 29 = .ok (.getfield 7, 3) := kq.at kqdX11_laysBytes_0 17 rfl
theorem dX11_laysBytes_32 : decode cX11_laysBytes 32 = .ok (.sipush 16800, 3) := kq.at kqdX11_laysBytes_0 18 rfl
theorem dX11_laysBytes_35 : decode cX11_laysBytes 35 = .ok (.iload_n 1, 1) := kq.at kqdX11_laysBytes_0 19 rfl
theorem dX11_laysBytes_36 : decode cX11_laysBytes 36 = .ok (.iadd, 1) := kq.at kqdX11_laysBytes_0 20 rfl
theorem dX11_laysBytes_37 : decode cX11_laysBytes 37 = .ok (.aload_n 0, 1) := kq.at kqdX11_laysBytes_0 21 rfl
theorem dX11_laysBytes_38 : decode cX11_laysBytes 38 = .ok (.getfield 7, 3) := kq.at kqdX11_laysBytes_0 22 rfl
theorem dX11_laysBytes_41 : decode cX11_laysBytes 41 = .ok (.sipush 300, 3) := kq.at kqdX11_laysBytes_0 23 rfl
theorem kqdX11_laysBytes_44 : kq cX11_laysBytes [(44, .iload_n 1, 1), (45, .iadd, 1), (46, .iaload, 1), (47, .iastore, 1), (48, .iinc 1 1, 3), (51, .goto (-34), 3), (54, .return_, 1)] = true := by decide +kernel
theorem dX11_laysBytes_44 : decode cX11_laysBytes 44 = .ok (.iload_n 1, 1) := kq.at kqdX11_laysBytes_44 0 rfl
theorem dX11_laysBytes_45 : decode cX11_laysBytes 45 = .ok (.iadd, 1) := kq.at kqdX11_laysBytes_44 1 rfl
theorem dX11_laysBytes_46 : decode cX11_laysBytes 46 = .ok (.iaload, 1) := kq.at kqdX11_laysBytes_44 2 rfl
theorem dX11_laysBytes_47 : decode cX11_laysBytes 47 = .ok (.iastore, 1) := kq.at kqdX11_laysBytes_44 3 rfl
theorem dX11_laysBytes_48 : decode cX11_laysBytes 48 = .ok (.iinc 1 1, 3) := kq.at kqdX11_laysBytes_44 4 rfl
theorem dX11_laysBytes_51 : decode cX11_laysBytes 51 = .ok (.goto (-34), 3) := kq.at kqdX11_laysBytes_44 5 rfl
theorem dX11_laysBytes_54 : decode cX11_laysBytes 54 = .ok (.return_, 1) := kq.at kqdX11_laysBytes_44 6 rfl
theorem kqdX11_writing_0 : kq cX11_writing [(0, .iload_n 1, 1), (1, .ifCond .lt 18, 3), (4, .iload_n 1, 1), (5, .aload_n 0, 1), (6, .getfield 122, 3), (9, .if_icmp .gt 10, 3), (12, .iload_n 1, 1), (13, .sipush 300, 3), (16, .if_icmp .le 9, 3), (19, .aload_n 0, 1), (20, .iconst 1, 1), (21, .invokevirtual 188, 3), (24, .ireturn, 1), (25, .aload_n 0, 1), (26, .getfield 7, 3), (29, .sipush 16507, 3), (32, .iload_n 1, 1), (33, .iastore, 1), (34, .iconst 0, 1), (35, .istore_n 2, 1), (36, .iload_n 2, 1), (37, .iload_n 1, 1), (38, .if_icmp .ge 29, 3), (41, .aload_n 0, 1)] = true := by decide +kernel
theorem dX11_writing_0 : decode cX11_writing 0 = .ok (.iload_n 1, 1) := kq.at kqdX11_writing_0 0 rfl
theorem dX11_writing_1 : decode cX11_writing 1 = .ok (.ifCond .lt 18, 3) := kq.at kqdX11_writing_0 1 rfl
theorem dX11_writing_4 : decode cX11_writing 4 = .ok (.iload_n 1, 1) := kq.at kqdX11_writing_0 2 rfl
theorem dX11_writing_5 : decode cX11_writing 5 = .ok (.aload_n 0, 1) := kq.at kqdX11_writing_0 3 rfl
theorem dX11_writing_6 : decode cX11_writing 6 = .ok (.getfield 122, 3) := kq.at kqdX11_writing_0 4 rfl
theorem dX11_writing_9 : decode cX11_writing 9 = .ok (.if_icmp .gt 10, 3) := kq.at kqdX11_writing_0 5 rfl
theorem dX11_writing_12 : decode cX11_writing 12 = .ok (.iload_n 1, 1) := kq.at kqdX11_writing_0 6 rfl
theorem dX11_writing_13 : decode cX11_writing 13 = .ok (.sipush 300, 3) := kq.at kqdX11_writing_0 7 rfl
theorem dX11_writing_16 : decode cX11_writing 16 = .ok (.if_icmp .le 9, 3) := kq.at kqdX11_writing_0 8 rfl
theorem dX11_writing_19 : decode cX11_writing 19 = .ok (.aload_n 0, 1) := kq.at kqdX11_writing_0 9 rfl
theorem dX11_writing_20 : decode cX11_writing 20 = .ok (.iconst 1, 1) := kq.at kqdX11_writing_0 10 rfl
theorem dX11_writing_21 : decode cX11_writing 21 = .ok (.invokevirtual 188, 3) := kq.at kqdX11_writing_0 11 rfl
theorem dX11_writing_24 : decode cX11_writing 24 = .ok (.ireturn, 1) := kq.at kqdX11_writing_0 12 rfl
theorem dX11_writing_25 : decode cX11_writing 25 = .ok (.aload_n 0, 1) := kq.at kqdX11_writing_0 13 rfl
theorem dX11_writing_26 : decode cX11_writing 26 = .ok (.getfield 7, 3) := kq.at kqdX11_writing_0 14 rfl
theorem dX11_writing_29 : decode cX11_writing 29 = .ok (.sipush 16507, 3) := kq.at kqdX11_writing_0 15 rfl
theorem dX11_writing_32 : decode cX11_writing 32 = .ok (.iload_n 1, 1) := kq.at kqdX11_writing_0 16 rfl
theorem dX11_writing_33 : decode cX11_writing 33 = .ok (.iastore, 1) := kq.at kqdX11_writing_0 17 rfl
theorem dX11_writing_34 : decode cX11_writing 34 = .ok (.iconst 0, 1) := kq.at kqdX11_writing_0 18 rfl
theorem dX11_writing_35 : decode cX11_writing 35 = .ok (.istore_n 2, 1) := kq.at kqdX11_writing_0 19 rfl
theorem dX11_writing_36 : decode cX11_writing 36 = .ok (.iload_n 2, 1) := kq.at kqdX11_writing_0 20 rfl
theorem dX11_writing_37 : decode cX11_writing 37 = .ok (.iload_n 1, 1) := kq.at kqdX11_writing_0 21 rfl
theorem dX11_writing_38 : decode cX11_writing 38 = .ok (.if_icmp .ge 29, 3) := kq.at kqdX11_writing_0 22 rfl
theorem dX11_writing_41 : decode cX11_writing 41 = .ok (.aload_n 0, 1) := kq.at kqdX11_writing_0 23 rfl
theorem kqdX11_writing_42 : kq cX11_writing [(42, .getfield 7, 3), (45, .sipush 16800, 3), (48, .iload_n 2, 1), (49, .iadd, 1), (50, .aload_n 0, 1), (51, .getfield 27, 3), (54, .iload_n 2, 1), (55, .baload, 1), (56, .sipush 255, 3), (59, .iand, 1), (60, .iastore, 1), (61, .iinc 2 1, 3), (64, .goto (-28), 3), (67, .aload_n 0, 1), (68, .iconst 0, 1), (69, .putfield 122, 3), (72, .aload_n 0, 1), (73, .iconst 0, 1), (74, .putfield 34, 3), (77, .aload_n 0, 1), (78, .iconst (-1), 1), (79, .putfield 38, 3), (82, .aload_n 0, 1), (83, .aload_n 0, 1)] = true := by decide +kernel
theorem dX11_writing_42 : decode cX11_writing 42 = .ok (.getfield 7, 3) := kq.at kqdX11_writing_42 0 rfl
theorem dX11_writing_45 : decode cX11_writing 45 = .ok (.sipush 16800, 3) := kq.at kqdX11_writing_42 1 rfl
theorem dX11_writing_48 : decode cX11_writing 48 = .ok (.iload_n 2, 1) := kq.at kqdX11_writing_42 2 rfl
theorem dX11_writing_49 : decode cX11_writing 49 = .ok (.iadd, 1) := kq.at kqdX11_writing_42 3 rfl
theorem dX11_writing_50 : decode cX11_writing 50 = .ok (.aload_n 0, 1) := kq.at kqdX11_writing_42 4 rfl
theorem dX11_writing_51 : decode cX11_writing 51 = .ok (.getfield 27, 3) := kq.at kqdX11_writing_42 5 rfl
theorem dX11_writing_54 : decode cX11_writing 54 = .ok (.iload_n 2, 1) := kq.at kqdX11_writing_42 6 rfl
theorem dX11_writing_55 : decode cX11_writing 55 = .ok (.baload, 1) := kq.at kqdX11_writing_42 7 rfl
theorem dX11_writing_56 : decode cX11_writing 56 = .ok (.sipush 255, 3) := kq.at kqdX11_writing_42 8 rfl
theorem dX11_writing_59 : decode cX11_writing 59 = .ok (.iand, 1) := kq.at kqdX11_writing_42 9 rfl
theorem dX11_writing_60 : decode cX11_writing 60 = .ok (.iastore, 1) := kq.at kqdX11_writing_42 10 rfl
theorem dX11_writing_61 : decode cX11_writing 61 = .ok (.iinc 2 1, 3) := kq.at kqdX11_writing_42 11 rfl
theorem dX11_writing_64 : decode cX11_writing 64 = .ok (.goto (-28), 3) := kq.at kqdX11_writing_42 12 rfl
theorem dX11_writing_67 : decode cX11_writing 67 = .ok (.aload_n 0, 1) := kq.at kqdX11_writing_42 13 rfl
theorem dX11_writing_68 : decode cX11_writing 68 = .ok (.iconst 0, 1) := kq.at kqdX11_writing_42 14 rfl
theorem dX11_writing_69 : decode cX11_writing 69 = .ok (.putfield 122, 3) := kq.at kqdX11_writing_42 15 rfl
theorem dX11_writing_72 : decode cX11_writing 72 = .ok (.aload_n 0, 1) := kq.at kqdX11_writing_42 16 rfl
theorem dX11_writing_73 : decode cX11_writing 73 = .ok (.iconst 0, 1) := kq.at kqdX11_writing_42 17 rfl
theorem dX11_writing_74 : decode cX11_writing 74 = .ok (.putfield 34, 3) := kq.at kqdX11_writing_42 18 rfl
theorem dX11_writing_77 : decode cX11_writing 77 = .ok (.aload_n 0, 1) := kq.at kqdX11_writing_42 19 rfl
theorem dX11_writing_78 : decode cX11_writing 78 = .ok (.iconst (-1), 1) := kq.at kqdX11_writing_42 20 rfl
theorem dX11_writing_79 : decode cX11_writing 79 = .ok (.putfield 38, 3) := kq.at kqdX11_writing_42 21 rfl
theorem dX11_writing_82 : decode cX11_writing 82 = .ok (.aload_n 0, 1) := kq.at kqdX11_writing_42 22 rfl
theorem dX11_writing_83 : decode cX11_writing 83 = .ok (.aload_n 0, 1) := kq.at kqdX11_writing_42 23 rfl
theorem kqdX11_writing_84 : kq cX11_writing [(84, .getfield 7, 3), (87, .bipush 6, 2), (89, .iaload, 1), (90, .invokevirtual 291, 3), (93, .ifCond .ne 26, 3), (96, .aload_n 0, 1), (97, .aload_n 0, 1), (98, .getfield 230, 3), (101, .putfield 34, 3), (104, .aload_n 0, 1), (105, .aload_n 0, 1), (106, .getfield 233, 3), (109, .putfield 38, 3), (112, .aload_n 0, 1), (113, .bipush 9, 2), (115, .invokevirtual 188, 3), (118, .ireturn, 1), (119, .aload_n 0, 1), (120, .invokevirtual 294, 3), (123, .aload_n 0, 1), (124, .aload_n 0, 1), (125, .getfield 7, 3), (128, .bipush 8, 2), (130, .iaload, 1)] = true := by decide +kernel
theorem dX11_writing_84 : decode cX11_writing 84 = .ok (.getfield 7, 3) := kq.at kqdX11_writing_84 0 rfl
theorem dX11_writing_87 : decode cX11_writing 87 = .ok (.bipush 6, 2) := kq.at kqdX11_writing_84 1 rfl
theorem dX11_writing_89 : decode cX11_writing 89 = .ok (.iaload, 1) := kq.at kqdX11_writing_84 2 rfl
theorem dX11_writing_90 : decode cX11_writing 90 = .ok (.invokevirtual 291, 3) := kq.at kqdX11_writing_84 3 rfl
theorem dX11_writing_93 : decode cX11_writing 93 = .ok (.ifCond .ne 26, 3) := kq.at kqdX11_writing_84 4 rfl
theorem dX11_writing_96 : decode cX11_writing 96 = .ok (.aload_n 0, 1) := kq.at kqdX11_writing_84 5 rfl
theorem dX11_writing_97 : decode cX11_writing 97 = .ok (.aload_n 0, 1) := kq.at kqdX11_writing_84 6 rfl
theorem dX11_writing_98 : decode cX11_writing 98 = .ok (.getfield 230, 3) := kq.at kqdX11_writing_84 7 rfl
theorem dX11_writing_101 : decode cX11_writing 101 = .ok (.putfield 34, 3) := kq.at kqdX11_writing_84 8 rfl
theorem dX11_writing_104 : decode cX11_writing 104 = .ok (.aload_n 0, 1) := kq.at kqdX11_writing_84 9 rfl
theorem dX11_writing_105 : decode cX11_writing 105 = .ok (.aload_n 0, 1) := kq.at kqdX11_writing_84 10 rfl
theorem dX11_writing_106 : decode cX11_writing 106 = .ok (.getfield 233, 3) := kq.at kqdX11_writing_84 11 rfl
theorem dX11_writing_109 : decode cX11_writing 109 = .ok (.putfield 38, 3) := kq.at kqdX11_writing_84 12 rfl
theorem dX11_writing_112 : decode cX11_writing 112 = .ok (.aload_n 0, 1) := kq.at kqdX11_writing_84 13 rfl
theorem dX11_writing_113 : decode cX11_writing 113 = .ok (.bipush 9, 2) := kq.at kqdX11_writing_84 14 rfl
theorem dX11_writing_115 : decode cX11_writing 115 = .ok (.invokevirtual 188, 3) := kq.at kqdX11_writing_84 15 rfl
theorem dX11_writing_118 : decode cX11_writing 118 = .ok (.ireturn, 1) := kq.at kqdX11_writing_84 16 rfl
theorem dX11_writing_119 : decode cX11_writing 119 = .ok (.aload_n 0, 1) := kq.at kqdX11_writing_84 17 rfl
theorem dX11_writing_120 : decode cX11_writing 120 = .ok (.invokevirtual 294, 3) := kq.at kqdX11_writing_84 18 rfl
theorem dX11_writing_123 : decode cX11_writing 123 = .ok (.aload_n 0, 1) := kq.at kqdX11_writing_84 19 rfl
theorem dX11_writing_124 : decode cX11_writing 124 = .ok (.aload_n 0, 1) := kq.at kqdX11_writing_84 20 rfl
theorem dX11_writing_125 : decode cX11_writing 125 = .ok (.getfield 7, 3) := kq.at kqdX11_writing_84 21 rfl
theorem dX11_writing_128 : decode cX11_writing 128 = .ok (.bipush 8, 2) := kq.at kqdX11_writing_84 22 rfl
theorem dX11_writing_130 : decode cX11_writing 130 = .ok (.iaload, 1) := kq.at kqdX11_writing_84 23 rfl
theorem kqdX11_writing_131 : kq cX11_writing [(131, .invokevirtual 191, 3), (134, .ireturn, 1)] = true := by decide +kernel
theorem dX11_writing_131 : decode cX11_writing 131 = .ok (.invokevirtual 191, 3) := kq.at kqdX11_writing_131 0 rfl
theorem dX11_writing_134 : decode cX11_writing 134 = .ok (.ireturn, 1) := kq.at kqdX11_writing_131 1 rfl
theorem kqdX11_isRule_0 : kq cX11_isRule [(0, .iload_n 1, 1), (1, .ifCond .lt 17, 3), (4, .iload_n 1, 1), (5, .aload_n 0, 1), (6, .getfield 7, 3), (9, .iconst 0, 1), (10, .iaload, 1), (11, .if_icmp .ge 7, 3), (14, .iconst 1, 1), (15, .goto 4, 3), (18, .iconst 0, 1), (19, .ireturn, 1)] = true := by decide +kernel
theorem dX11_isRule_0 : decode cX11_isRule 0 = .ok (.iload_n 1, 1) := kq.at kqdX11_isRule_0 0 rfl
theorem dX11_isRule_1 : decode cX11_isRule 1 = .ok (.ifCond .lt 17, 3) := kq.at kqdX11_isRule_0 1 rfl
theorem dX11_isRule_4 : decode cX11_isRule 4 = .ok (.iload_n 1, 1) := kq.at kqdX11_isRule_0 2 rfl
theorem dX11_isRule_5 : decode cX11_isRule 5 = .ok (.aload_n 0, 1) := kq.at kqdX11_isRule_0 3 rfl
theorem dX11_isRule_6 : decode cX11_isRule 6 = .ok (.getfield 7, 3) := kq.at kqdX11_isRule_0 4 rfl
theorem dX11_isRule_9 : decode cX11_isRule 9 = .ok (.iconst 0, 1) := kq.at kqdX11_isRule_0 5 rfl
theorem dX11_isRule_10 : decode cX11_isRule 10 = .ok (.iaload, 1) := kq.at kqdX11_isRule_0 6 rfl
theorem dX11_isRule_11 : decode cX11_isRule 11 = .ok (.if_icmp .ge 7, 3) := kq.at kqdX11_isRule_0 7 rfl
theorem dX11_isRule_14 : decode cX11_isRule 14 = .ok (.iconst 1, 1) := kq.at kqdX11_isRule_0 8 rfl
theorem dX11_isRule_15 : decode cX11_isRule 15 = .ok (.goto 4, 3) := kq.at kqdX11_isRule_0 9 rfl
theorem dX11_isRule_18 : decode cX11_isRule 18 = .ok (.iconst 0, 1) := kq.at kqdX11_isRule_0 10 rfl
theorem dX11_isRule_19 : decode cX11_isRule 19 = .ok (.ireturn, 1) := kq.at kqdX11_isRule_0 11 rfl
theorem kqdX11_told_0 : kq cX11_told [(0, .iload_n 1, 1), (1, .ifCond .lt 9, 3), (4, .iload_n 1, 1), (5, .bipush 6, 2), (7, .if_icmp .le 9, 3), (10, .aload_n 0, 1), (11, .iconst 1, 1), (12, .invokevirtual 188, 3), (15, .ireturn, 1), (16, .iload_n 1, 1), (17, .iconst 1, 1), (18, .if_icmp .lt 26, 3), (21, .iload_n 1, 1), (22, .iconst 3, 1), (23, .if_icmp .gt 21, 3), (26, .aload_n 0, 1), (27, .getfield 7, 3), (30, .iload_n 1, 1), (31, .iaload, 1), (32, .ifCond .ne 12, 3), (35, .aload_n 0, 1), (36, .bipush 6, 2), (38, .invokevirtual 188, 3), (41, .goto 13, 3)] = true := by decide +kernel
theorem dX11_told_0 : decode cX11_told 0 = .ok (.iload_n 1, 1) := kq.at kqdX11_told_0 0 rfl
theorem dX11_told_1 : decode cX11_told 1 = .ok (.ifCond .lt 9, 3) := kq.at kqdX11_told_0 1 rfl
theorem dX11_told_4 : decode cX11_told 4 = .ok (.iload_n 1, 1) := kq.at kqdX11_told_0 2 rfl
theorem dX11_told_5 : decode cX11_told 5 = .ok (.bipush 6, 2) := kq.at kqdX11_told_0 3 rfl
theorem dX11_told_7 : decode cX11_told 7 = .ok (.if_icmp .le 9, 3) := kq.at kqdX11_told_0 4 rfl
theorem dX11_told_10 : decode cX11_told 10 = .ok (.aload_n 0, 1) := kq.at kqdX11_told_0 5 rfl
theorem dX11_told_11 : decode cX11_told 11 = .ok (.iconst 1, 1) := kq.at kqdX11_told_0 6 rfl
theorem dX11_told_12 : decode cX11_told 12 = .ok (.invokevirtual 188, 3) := kq.at kqdX11_told_0 7 rfl
theorem dX11_told_15 : decode cX11_told 15 = .ok (.ireturn, 1) := kq.at kqdX11_told_0 8 rfl
theorem dX11_told_16 : decode cX11_told 16 = .ok (.iload_n 1, 1) := kq.at kqdX11_told_0 9 rfl
theorem dX11_told_17 : decode cX11_told 17 = .ok (.iconst 1, 1) := kq.at kqdX11_told_0 10 rfl
theorem dX11_told_18 : decode cX11_told 18 = .ok (.if_icmp .lt 26, 3) := kq.at kqdX11_told_0 11 rfl
theorem dX11_told_21 : decode cX11_told 21 = .ok (.iload_n 1, 1) := kq.at kqdX11_told_0 12 rfl
theorem dX11_told_22 : decode cX11_told 22 = .ok (.iconst 3, 1) := kq.at kqdX11_told_0 13 rfl
theorem dX11_told_23 : decode cX11_told 23 = .ok (.if_icmp .gt 21, 3) := kq.at kqdX11_told_0 14 rfl
theorem dX11_told_26 : decode cX11_told 26 = .ok (.aload_n 0, 1) := kq.at kqdX11_told_0 15 rfl
theorem dX11_told_27 : decode cX11_told 27 = .ok (.getfield 7, 3) := kq.at kqdX11_told_0 16 rfl
theorem dX11_told_30 : decode cX11_told 30 = .ok (.iload_n 1, 1) := kq.at kqdX11_told_0 17 rfl
theorem dX11_told_31 : decode cX11_told 31 = .ok (.iaload, 1) := kq.at kqdX11_told_0 18 rfl
theorem dX11_told_32 : decode cX11_told 32 = .ok (.ifCond .ne 12, 3) := kq.at kqdX11_told_0 19 rfl
theorem dX11_told_35 : decode cX11_told 35 = .ok (.aload_n 0, 1) := kq.at kqdX11_told_0 20 rfl
theorem dX11_told_36 : decode cX11_told 36 = .ok (.bipush 6, 2) := kq.at kqdX11_told_0 21 rfl
theorem dX11_told_38 : decode cX11_told 38 = .ok (.invokevirtual 188, 3) := kq.at kqdX11_told_0 22 rfl
theorem dX11_told_41 : decode cX11_told 41 = .ok (.goto 13, 3) := kq.at kqdX11_told_0 23 rfl
theorem kqdX11_told_44 : kq cX11_told [(44, .aload_n 0, 1), (45, .aload_n 0, 1), (46, .getfield 7, 3), (49, .iload_n 1, 1), (50, .iaload, 1), (51, .invokevirtual 191, 3), (54, .ireturn, 1)] = true := by decide +kernel
theorem dX11_told_44 : decode cX11_told 44 = .ok (.aload_n 0, 1) := kq.at kqdX11_told_44 0 rfl
theorem dX11_told_45 : decode cX11_told 45 = .ok (.aload_n 0, 1) := kq.at kqdX11_told_44 1 rfl
theorem dX11_told_46 : decode cX11_told 46 = .ok (.getfield 7, 3) := kq.at kqdX11_told_44 2 rfl
theorem dX11_told_49 : decode cX11_told 49 = .ok (.iload_n 1, 1) := kq.at kqdX11_told_44 3 rfl
theorem dX11_told_50 : decode cX11_told 50 = .ok (.iaload, 1) := kq.at kqdX11_told_44 4 rfl
theorem dX11_told_51 : decode cX11_told 51 = .ok (.invokevirtual 191, 3) := kq.at kqdX11_told_44 5 rfl
theorem dX11_told_54 : decode cX11_told 54 = .ok (.ireturn, 1) := kq.at kqdX11_told_44 6 rfl
theorem kqdX11_rule_0 : kq cX11_rule [(0, .aload_n 0, 1), (1, .iload_n 1, 1), (2, .invokevirtual 297, 3), (5, .ifCond .eq 12, 3), (8, .iload_n 2, 1), (9, .ifCond .lt 8, 3), (12, .iload_n 2, 1), (13, .iconst 2, 1), (14, .if_icmp .le 9, 3), (17, .aload_n 0, 1), (18, .iconst 1, 1), (19, .invokevirtual 188, 3), (22, .ireturn, 1), (23, .aload_n 0, 1), (24, .aload_n 0, 1), (25, .getfield 7, 3), (28, .iconst 0, 1), (29, .iload_n 1, 1), (30, .invokestatic 194, 3), (33, .iload_n 2, 1), (34, .ifCond .ne 7, 3), (37, .iconst 0, 1), (38, .goto 15, 3), (41, .iload_n 2, 1)] = true := by decide +kernel
theorem dX11_rule_0 : decode cX11_rule 0 = .ok (.aload_n 0, 1) := kq.at kqdX11_rule_0 0 rfl
theorem dX11_rule_1 : decode cX11_rule 1 = .ok (.iload_n 1, 1) := kq.at kqdX11_rule_0 1 rfl
theorem dX11_rule_2 : decode cX11_rule 2 = .ok (.invokevirtual 297, 3) := kq.at kqdX11_rule_0 2 rfl
theorem dX11_rule_5 : decode cX11_rule 5 = .ok (.ifCond .eq 12, 3) := kq.at kqdX11_rule_0 3 rfl
theorem dX11_rule_8 : decode cX11_rule 8 = .ok (.iload_n 2, 1) := kq.at kqdX11_rule_0 4 rfl
theorem dX11_rule_9 : decode cX11_rule 9 = .ok (.ifCond .lt 8, 3) := kq.at kqdX11_rule_0 5 rfl
theorem dX11_rule_12 : decode cX11_rule 12 = .ok (.iload_n 2, 1) := kq.at kqdX11_rule_0 6 rfl
theorem dX11_rule_13 : decode cX11_rule 13 = .ok (.iconst 2, 1) := kq.at kqdX11_rule_0 7 rfl
theorem dX11_rule_14 : decode cX11_rule 14 = .ok (.if_icmp .le 9, 3) := kq.at kqdX11_rule_0 8 rfl
theorem dX11_rule_17 : decode cX11_rule 17 = .ok (.aload_n 0, 1) := kq.at kqdX11_rule_0 9 rfl
theorem dX11_rule_18 : decode cX11_rule 18 = .ok (.iconst 1, 1) := kq.at kqdX11_rule_0 10 rfl
theorem dX11_rule_19 : decode cX11_rule 19 = .ok (.invokevirtual 188, 3) := kq.at kqdX11_rule_0 11 rfl
theorem dX11_rule_22 : decode cX11_rule 22 = .ok (.ireturn, 1) := kq.at kqdX11_rule_0 12 rfl
theorem dX11_rule_23 : decode cX11_rule 23 = .ok (.aload_n 0, 1) := kq.at kqdX11_rule_0 13 rfl
theorem dX11_rule_24 : decode cX11_rule 24 = .ok (.aload_n 0, 1) := kq.at kqdX11_rule_0 14 rfl
theorem dX11_rule_25 : decode cX11_rule 25 = .ok (.getfield 7, 3) := kq.at kqdX11_rule_0 15 rfl
theorem dX11_rule_28 : decode cX11_rule 28 = .ok (.iconst 0, 1) := kq.at kqdX11_rule_0 16 rfl
theorem dX11_rule_29 : decode cX11_rule 29 = .ok (.iload_n 1, 1) := kq.at kqdX11_rule_0 17 rfl
theorem dX11_rule_30 : decode cX11_rule 30 = .ok (.invokestatic 194, 3) := kq.at kqdX11_rule_0 18 rfl
theorem dX11_rule_33 : decode cX11_rule 33 = .ok (.iload_n 2, 1) := kq.at kqdX11_rule_0 19 rfl
theorem dX11_rule_34 : decode cX11_rule 34 = .ok (.ifCond .ne 7, 3) := kq.at kqdX11_rule_0 20 rfl
theorem dX11_rule_37 : decode cX11_rule 37 = .ok (.iconst 0, 1) := kq.at kqdX11_rule_0 21 rfl
theorem dX11_rule_38 : decode cX11_rule 38 = .ok (.goto 15, 3) := kq.at kqdX11_rule_0 22 rfl
theorem dX11_rule_41 : decode cX11_rule 41 = .ok (.iload_n 2, 1) := kq.at kqdX11_rule_0 23 rfl
theorem kqdX11_rule_42 : kq cX11_rule [(42, .iconst 1, 1), (43, .if_icmp .ne 8, 3), (46, .bipush 7, 2), (48, .goto 5, 3), (51, .bipush 11, 2), (53, .iadd, 1), (54, .iaload, 1), (55, .invokevirtual 191, 3), (58, .ireturn, 1)] = true := by decide +kernel
theorem dX11_rule_42 : decode cX11_rule 42 = .ok (.iconst 1, 1) := kq.at kqdX11_rule_42 0 rfl
theorem dX11_rule_43 : decode cX11_rule 43 = .ok (.if_icmp .ne 8, 3) := kq.at kqdX11_rule_42 1 rfl
theorem dX11_rule_46 : decode cX11_rule 46 = .ok (.bipush 7, 2) := kq.at kqdX11_rule_42 2 rfl
theorem dX11_rule_48 : decode cX11_rule 48 = .ok (.goto 5, 3) := kq.at kqdX11_rule_42 3 rfl
theorem dX11_rule_51 : decode cX11_rule 51 = .ok (.bipush 11, 2) := kq.at kqdX11_rule_42 4 rfl
theorem dX11_rule_53 : decode cX11_rule 53 = .ok (.iadd, 1) := kq.at kqdX11_rule_42 5 rfl
theorem dX11_rule_54 : decode cX11_rule 54 = .ok (.iaload, 1) := kq.at kqdX11_rule_42 6 rfl
theorem dX11_rule_55 : decode cX11_rule 55 = .ok (.invokevirtual 191, 3) := kq.at kqdX11_rule_42 7 rfl
theorem dX11_rule_58 : decode cX11_rule 58 = .ok (.ireturn, 1) := kq.at kqdX11_rule_42 8 rfl
theorem kqdX11_letter_0 : kq cX11_letter [(0, .aload_n 0, 1), (1, .iload_n 1, 1), (2, .invokevirtual 297, 3), (5, .ifCond .ne 9, 3), (8, .aload_n 0, 1), (9, .iconst 1, 1), (10, .invokevirtual 188, 3), (13, .ireturn, 1), (14, .iload_n 2, 1), (15, .ifCond .lt 17, 3), (18, .iload_n 2, 1), (19, .aload_n 0, 1), (20, .getfield 7, 3), (23, .iconst 0, 1), (24, .iload_n 1, 1), (25, .invokestatic 194, 3), (28, .iaload, 1), (29, .if_icmp .lt 12, 3), (32, .aload_n 0, 1), (33, .bipush 6, 2), (35, .invokevirtual 188, 3), (38, .goto 21, 3), (41, .aload_n 0, 1), (42, .aload_n 0, 1)] = true := by decide +kernel
theorem dX11_letter_0 : decode cX11_letter 0 = .ok (.aload_n 0, 1) := kq.at kqdX11_letter_0 0 rfl
theorem dX11_letter_1 : decode cX11_letter 1 = .ok (.iload_n 1, 1) := kq.at kqdX11_letter_0 1 rfl
theorem dX11_letter_2 : decode cX11_letter 2 = .ok (.invokevirtual 297, 3) := kq.at kqdX11_letter_0 2 rfl
theorem dX11_letter_5 : decode cX11_letter 5 = .ok (.ifCond .ne 9, 3) := kq.at kqdX11_letter_0 3 rfl
theorem dX11_letter_8 : decode cX11_letter 8 = .ok (.aload_n 0, 1) := kq.at kqdX11_letter_0 4 rfl
theorem dX11_letter_9 : decode cX11_letter 9 = .ok (.iconst 1, 1) := kq.at kqdX11_letter_0 5 rfl
theorem dX11_letter_10 : decode cX11_letter 10 = .ok (.invokevirtual 188, 3) := kq.at kqdX11_letter_0 6 rfl
theorem dX11_letter_13 : decode cX11_letter 13 = .ok (.ireturn, 1) := kq.at kqdX11_letter_0 7 rfl
theorem dX11_letter_14 : decode cX11_letter 14 = .ok (.iload_n 2, 1) := kq.at kqdX11_letter_0 8 rfl
theorem dX11_letter_15 : decode cX11_letter 15 = .ok (.ifCond .lt 17, 3) := kq.at kqdX11_letter_0 9 rfl
theorem dX11_letter_18 : decode cX11_letter 18 = .ok (.iload_n 2, 1) := kq.at kqdX11_letter_0 10 rfl
theorem dX11_letter_19 : decode cX11_letter 19 = .ok (.aload_n 0, 1) := kq.at kqdX11_letter_0 11 rfl
theorem dX11_letter_20 : decode cX11_letter 20 = .ok (.getfield 7, 3) := kq.at kqdX11_letter_0 12 rfl
theorem dX11_letter_23 : decode cX11_letter 23 = .ok (.iconst 0, 1) := kq.at kqdX11_letter_0 13 rfl
theorem dX11_letter_24 : decode cX11_letter 24 = .ok (.iload_n 1, 1) := kq.at kqdX11_letter_0 14 rfl
theorem dX11_letter_25 : decode cX11_letter 25 = .ok (.invokestatic 194, 3) := kq.at kqdX11_letter_0 15 rfl
theorem dX11_letter_28 : decode cX11_letter 28 = .ok (.iaload, 1) := kq.at kqdX11_letter_0 16 rfl
theorem dX11_letter_29 : decode cX11_letter 29 = .ok (.if_icmp .lt 12, 3) := kq.at kqdX11_letter_0 17 rfl
theorem dX11_letter_32 : decode cX11_letter 32 = .ok (.aload_n 0, 1) := kq.at kqdX11_letter_0 18 rfl
theorem dX11_letter_33 : decode cX11_letter 33 = .ok (.bipush 6, 2) := kq.at kqdX11_letter_0 19 rfl
theorem dX11_letter_35 : decode cX11_letter 35 = .ok (.invokevirtual 188, 3) := kq.at kqdX11_letter_0 20 rfl
theorem dX11_letter_38 : decode cX11_letter 38 = .ok (.goto 21, 3) := kq.at kqdX11_letter_0 21 rfl
theorem dX11_letter_41 : decode cX11_letter 41 = .ok (.aload_n 0, 1) := kq.at kqdX11_letter_0 22 rfl
theorem dX11_letter_42 : decode cX11_letter 42 = .ok (.aload_n 0, 1) := kq.at kqdX11_letter_0 23 rfl
theorem kqdX11_letter_43 : kq cX11_letter [(43, .getfield 7, 3), (46, .iconst 0, 1), (47, .iload_n 1, 1), (48, .invokestatic 194, 3), (51, .iconst 1, 1), (52, .iadd, 1), (53, .iload_n 2, 1), (54, .iadd, 1), (55, .iaload, 1), (56, .invokevirtual 191, 3), (59, .ireturn, 1)] = true := by decide +kernel
theorem dX11_letter_43 : decode cX11_letter 43 = .ok (.getfield 7, 3) := kq.at kqdX11_letter_43 0 rfl
theorem dX11_letter_46 : decode cX11_letter 46 = .ok (.iconst 0, 1) := kq.at kqdX11_letter_43 1 rfl
theorem dX11_letter_47 : decode cX11_letter 47 = .ok (.iload_n 1, 1) := kq.at kqdX11_letter_43 2 rfl
theorem dX11_letter_48 : decode cX11_letter 48 = .ok (.invokestatic 194, 3) := kq.at kqdX11_letter_43 3 rfl
theorem dX11_letter_51 : decode cX11_letter 51 = .ok (.iconst 1, 1) := kq.at kqdX11_letter_43 4 rfl
theorem dX11_letter_52 : decode cX11_letter 52 = .ok (.iadd, 1) := kq.at kqdX11_letter_43 5 rfl
theorem dX11_letter_53 : decode cX11_letter 53 = .ok (.iload_n 2, 1) := kq.at kqdX11_letter_43 6 rfl
theorem dX11_letter_54 : decode cX11_letter 54 = .ok (.iadd, 1) := kq.at kqdX11_letter_43 7 rfl
theorem dX11_letter_55 : decode cX11_letter 55 = .ok (.iaload, 1) := kq.at kqdX11_letter_43 8 rfl
theorem dX11_letter_56 : decode cX11_letter 56 = .ok (.invokevirtual 191, 3) := kq.at kqdX11_letter_43 9 rfl
theorem dX11_letter_59 : decode cX11_letter 59 = .ok (.ireturn, 1) := kq.at kqdX11_letter_43 10 rfl
theorem kqdX11_cellsOf_0 : kq cX11_cellsOf [(0, .aload_n 0, 1), (1, .getfield 7, 3), (4, .iconst 0, 1), (5, .iload_n 1, 1), (6, .invokestatic 194, 3), (9, .bipush 7, 2), (11, .iadd, 1), (12, .iaload, 1), (13, .ireturn, 1)] = true := by decide +kernel
theorem dX11_cellsOf_0 : decode cX11_cellsOf 0 = .ok (.aload_n 0, 1) := kq.at kqdX11_cellsOf_0 0 rfl
theorem dX11_cellsOf_1 : decode cX11_cellsOf 1 = .ok (.getfield 7, 3) := kq.at kqdX11_cellsOf_0 1 rfl
theorem dX11_cellsOf_4 : decode cX11_cellsOf 4 = .ok (.iconst 0, 1) := kq.at kqdX11_cellsOf_0 2 rfl
theorem dX11_cellsOf_5 : decode cX11_cellsOf 5 = .ok (.iload_n 1, 1) := kq.at kqdX11_cellsOf_0 3 rfl
theorem dX11_cellsOf_6 : decode cX11_cellsOf 6 = .ok (.invokestatic 194, 3) := kq.at kqdX11_cellsOf_0 4 rfl
theorem dX11_cellsOf_9 : decode cX11_cellsOf 9 = .ok (.bipush 7, 2) := kq.at kqdX11_cellsOf_0 5 rfl
theorem dX11_cellsOf_11 : decode cX11_cellsOf 11 = .ok (.iadd, 1) := kq.at kqdX11_cellsOf_0 6 rfl
theorem dX11_cellsOf_12 : decode cX11_cellsOf 12 = .ok (.iaload, 1) := kq.at kqdX11_cellsOf_0 7 rfl
theorem dX11_cellsOf_13 : decode cX11_cellsOf 13 = .ok (.ireturn, 1) := kq.at kqdX11_cellsOf_0 8 rfl
theorem kqdX11_cellAt_0 : kq cX11_cellAt [(0, .aload_n 0, 1), (1, .getfield 7, 3), (4, .iconst 0, 1), (5, .iload_n 1, 1), (6, .invokestatic 194, 3), (9, .bipush 7, 2), (11, .iadd, 1), (12, .iconst 1, 1), (13, .iadd, 1), (14, .iload_n 2, 1), (15, .iadd, 1), (16, .iaload, 1), (17, .ireturn, 1)] = true := by decide +kernel
theorem dX11_cellAt_0 : decode cX11_cellAt 0 = .ok (.aload_n 0, 1) := kq.at kqdX11_cellAt_0 0 rfl
theorem dX11_cellAt_1 : decode cX11_cellAt 1 = .ok (.getfield 7, 3) := kq.at kqdX11_cellAt_0 1 rfl
theorem dX11_cellAt_4 : decode cX11_cellAt 4 = .ok (.iconst 0, 1) := kq.at kqdX11_cellAt_0 2 rfl
theorem dX11_cellAt_5 : decode cX11_cellAt 5 = .ok (.iload_n 1, 1) := kq.at kqdX11_cellAt_0 3 rfl
theorem dX11_cellAt_6 : decode cX11_cellAt 6 = .ok (.invokestatic 194, 3) := kq.at kqdX11_cellAt_0 4 rfl
theorem dX11_cellAt_9 : decode cX11_cellAt 9 = .ok (.bipush 7, 2) := kq.at kqdX11_cellAt_0 5 rfl
theorem dX11_cellAt_11 : decode cX11_cellAt 11 = .ok (.iadd, 1) := kq.at kqdX11_cellAt_0 6 rfl
theorem dX11_cellAt_12 : decode cX11_cellAt 12 = .ok (.iconst 1, 1) := kq.at kqdX11_cellAt_0 7 rfl
theorem dX11_cellAt_13 : decode cX11_cellAt 13 = .ok (.iadd, 1) := kq.at kqdX11_cellAt_0 8 rfl
theorem dX11_cellAt_14 : decode cX11_cellAt 14 = .ok (.iload_n 2, 1) := kq.at kqdX11_cellAt_0 9 rfl
theorem dX11_cellAt_15 : decode cX11_cellAt 15 = .ok (.iadd, 1) := kq.at kqdX11_cellAt_0 10 rfl
theorem dX11_cellAt_16 : decode cX11_cellAt 16 = .ok (.iaload, 1) := kq.at kqdX11_cellAt_0 11 rfl
theorem dX11_cellAt_17 : decode cX11_cellAt 17 = .ok (.ireturn, 1) := kq.at kqdX11_cellAt_0 12 rfl
theorem kqdX11_cellOf_0 : kq cX11_cellOf [(0, .aload_n 0, 1), (1, .iload_n 1, 1), (2, .invokevirtual 297, 3), (5, .ifCond .ne 9, 3), (8, .aload_n 0, 1), (9, .iconst 1, 1), (10, .invokevirtual 188, 3), (13, .ireturn, 1), (14, .iload_n 2, 1), (15, .ifCond .lt 12, 3), (18, .iload_n 2, 1), (19, .aload_n 0, 1), (20, .iload_n 1, 1), (21, .invokevirtual 300, 3), (24, .if_icmp .lt 12, 3), (27, .aload_n 0, 1), (28, .bipush 6, 2), (30, .invokevirtual 188, 3), (33, .goto 13, 3), (36, .aload_n 0, 1), (37, .aload_n 0, 1), (38, .iload_n 1, 1), (39, .iload_n 2, 1), (40, .invokevirtual 303, 3)] = true := by decide +kernel
theorem dX11_cellOf_0 : decode cX11_cellOf 0 = .ok (.aload_n 0, 1) := kq.at kqdX11_cellOf_0 0 rfl
theorem dX11_cellOf_1 : decode cX11_cellOf 1 = .ok (.iload_n 1, 1) := kq.at kqdX11_cellOf_0 1 rfl
theorem dX11_cellOf_2 : decode cX11_cellOf 2 = .ok (.invokevirtual 297, 3) := kq.at kqdX11_cellOf_0 2 rfl
theorem dX11_cellOf_5 : decode cX11_cellOf 5 = .ok (.ifCond .ne 9, 3) := kq.at kqdX11_cellOf_0 3 rfl
theorem dX11_cellOf_8 : decode cX11_cellOf 8 = .ok (.aload_n 0, 1) := kq.at kqdX11_cellOf_0 4 rfl
theorem dX11_cellOf_9 : decode cX11_cellOf 9 = .ok (.iconst 1, 1) := kq.at kqdX11_cellOf_0 5 rfl
theorem dX11_cellOf_10 : decode cX11_cellOf 10 = .ok (.invokevirtual 188, 3) := kq.at kqdX11_cellOf_0 6 rfl
theorem dX11_cellOf_13 : decode cX11_cellOf 13 = .ok (.ireturn, 1) := kq.at kqdX11_cellOf_0 7 rfl
theorem dX11_cellOf_14 : decode cX11_cellOf 14 = .ok (.iload_n 2, 1) := kq.at kqdX11_cellOf_0 8 rfl
theorem dX11_cellOf_15 : decode cX11_cellOf 15 = .ok (.ifCond .lt 12, 3) := kq.at kqdX11_cellOf_0 9 rfl
theorem dX11_cellOf_18 : decode cX11_cellOf 18 = .ok (.iload_n 2, 1) := kq.at kqdX11_cellOf_0 10 rfl
theorem dX11_cellOf_19 : decode cX11_cellOf 19 = .ok (.aload_n 0, 1) := kq.at kqdX11_cellOf_0 11 rfl
theorem dX11_cellOf_20 : decode cX11_cellOf 20 = .ok (.iload_n 1, 1) := kq.at kqdX11_cellOf_0 12 rfl
theorem dX11_cellOf_21 : decode cX11_cellOf 21 = .ok (.invokevirtual 300, 3) := kq.at kqdX11_cellOf_0 13 rfl
theorem dX11_cellOf_24 : decode cX11_cellOf 24 = .ok (.if_icmp .lt 12, 3) := kq.at kqdX11_cellOf_0 14 rfl
theorem dX11_cellOf_27 : decode cX11_cellOf 27 = .ok (.aload_n 0, 1) := kq.at kqdX11_cellOf_0 15 rfl
theorem dX11_cellOf_28 : decode cX11_cellOf 28 = .ok (.bipush 6, 2) := kq.at kqdX11_cellOf_0 16 rfl
theorem dX11_cellOf_30 : decode cX11_cellOf 30 = .ok (.invokevirtual 188, 3) := kq.at kqdX11_cellOf_0 17 rfl
theorem dX11_cellOf_33 : decode cX11_cellOf 33 = .ok (.goto 13, 3) := kq.at kqdX11_cellOf_0 18 rfl
theorem dX11_cellOf_36 : decode cX11_cellOf 36 = .ok (.aload_n 0, 1) := kq.at kqdX11_cellOf_0 19 rfl
theorem dX11_cellOf_37 : decode cX11_cellOf 37 = .ok (.aload_n 0, 1) := kq.at kqdX11_cellOf_0 20 rfl
theorem dX11_cellOf_38 : decode cX11_cellOf 38 = .ok (.iload_n 1, 1) := kq.at kqdX11_cellOf_0 21 rfl
theorem dX11_cellOf_39 : decode cX11_cellOf 39 = .ok (.iload_n 2, 1) := kq.at kqdX11_cellOf_0 22 rfl
theorem dX11_cellOf_40 : decode cX11_cellOf 40 = .ok (.invokevirtual 303, 3) := kq.at kqdX11_cellOf_0 23 rfl
theorem kqdX11_cellOf_43 : kq cX11_cellOf [(43, .invokevirtual 191, 3), (46, .ireturn, 1)] = true := by decide +kernel
theorem dX11_cellOf_43 : decode cX11_cellOf 43 = .ok (.invokevirtual 191, 3) := kq.at kqdX11_cellOf_43 0 rfl
theorem dX11_cellOf_46 : decode cX11_cellOf 46 = .ok (.ireturn, 1) := kq.at kqdX11_cellOf_43 1 rfl
theorem kqdX11_drop_0 : kq cX11_drop [(0, .aload_n 0, 1), (1, .iload_n 1, 1), (2, .invokevirtual 297, 3), (5, .ifCond .ne 9, 3), (8, .aload_n 0, 1), (9, .iconst 1, 1), (10, .invokevirtual 105, 3), (13, .ireturn, 1), (14, .aload_n 0, 1), (15, .getfield 7, 3), (18, .bipush 6, 2), (20, .aload_n 0, 1), (21, .getfield 7, 3), (24, .bipush 6, 2), (26, .iaload, 1), (27, .iconst 1, 1), (28, .iload_n 1, 1), (29, .ishl, 1), (30, .iconst (-1), 1), (31, .ixor, 1), (32, .iand, 1), (33, .iload_n 2, 1), (34, .ifCond .eq 9, 3), (37, .iconst 1, 1)] = true := by decide +kernel
theorem dX11_drop_0 : decode cX11_drop 0 = .ok (.aload_n 0, 1) := kq.at kqdX11_drop_0 0 rfl
theorem dX11_drop_1 : decode cX11_drop 1 = .ok (.iload_n 1, 1) := kq.at kqdX11_drop_0 1 rfl
theorem dX11_drop_2 : decode cX11_drop 2 = .ok (.invokevirtual 297, 3) := kq.at kqdX11_drop_0 2 rfl
theorem dX11_drop_5 : decode cX11_drop 5 = .ok (.ifCond .ne 9, 3) := kq.at kqdX11_drop_0 3 rfl
theorem dX11_drop_8 : decode cX11_drop 8 = .ok (.aload_n 0, 1) := kq.at kqdX11_drop_0 4 rfl
theorem dX11_drop_9 : decode cX11_drop 9 = .ok (.iconst 1, 1) := kq.at kqdX11_drop_0 5 rfl
theorem dX11_drop_10 : decode cX11_drop 10 = .ok (.invokevirtual 105, 3) := kq.at kqdX11_drop_0 6 rfl
theorem dX11_drop_13 : decode cX11_drop 13 = .ok (.ireturn, 1) := kq.at kqdX11_drop_0 7 rfl
theorem dX11_drop_14 : decode cX11_drop 14 = .ok (.aload_n 0, 1) := kq.at kqdX11_drop_0 8 rfl
theorem dX11_drop_15 : decode cX11_drop 15 = .ok (.getfield 7, 3) := kq.at kqdX11_drop_0 9 rfl
theorem dX11_drop_18 : decode cX11_drop 18 = .ok (.bipush 6, 2) := kq.at kqdX11_drop_0 10 rfl
theorem dX11_drop_20 : decode cX11_drop 20 = .ok (.aload_n 0, 1) := kq.at kqdX11_drop_0 11 rfl
theorem dX11_drop_21 : decode cX11_drop 21 = .ok (.getfield 7, 3) := kq.at kqdX11_drop_0 12 rfl
theorem dX11_drop_24 : decode cX11_drop 24 = .ok (.bipush 6, 2) := kq.at kqdX11_drop_0 13 rfl
theorem dX11_drop_26 : decode cX11_drop 26 = .ok (.iaload, 1) := kq.at kqdX11_drop_0 14 rfl
theorem dX11_drop_27 : decode cX11_drop 27 = .ok (.iconst 1, 1) := kq.at kqdX11_drop_0 15 rfl
theorem dX11_drop_28 : decode cX11_drop 28 = .ok (.iload_n 1, 1) := kq.at kqdX11_drop_0 16 rfl
theorem dX11_drop_29 : decode cX11_drop 29 = .ok (.ishl, 1) := kq.at kqdX11_drop_0 17 rfl
theorem dX11_drop_30 : decode cX11_drop 30 = .ok (.iconst (-1), 1) := kq.at kqdX11_drop_0 18 rfl
theorem dX11_drop_31 : decode cX11_drop 31 = .ok (.ixor, 1) := kq.at kqdX11_drop_0 19 rfl
theorem dX11_drop_32 : decode cX11_drop 32 = .ok (.iand, 1) := kq.at kqdX11_drop_0 20 rfl
theorem dX11_drop_33 : decode cX11_drop 33 = .ok (.iload_n 2, 1) := kq.at kqdX11_drop_0 21 rfl
theorem dX11_drop_34 : decode cX11_drop 34 = .ok (.ifCond .eq 9, 3) := kq.at kqdX11_drop_0 22 rfl
theorem dX11_drop_37 : decode cX11_drop 37 = .ok (.iconst 1, 1) := kq.at kqdX11_drop_0 23 rfl
theorem kqdX11_drop_38 : kq cX11_drop [(38, .iload_n 1, 1), (39, .ishl, 1), (40, .goto 4, 3), (43, .iconst 0, 1), (44, .ior, 1), (45, .iastore, 1), (46, .aload_n 0, 1), (47, .iconst 0, 1), (48, .invokevirtual 105, 3), (51, .ireturn, 1)] = true := by decide +kernel
theorem dX11_drop_38 : decode cX11_drop 38 = .ok (.iload_n 1, 1) := kq.at kqdX11_drop_38 0 rfl
theorem dX11_drop_39 : decode cX11_drop 39 = .ok (.ishl, 1) := kq.at kqdX11_drop_38 1 rfl
theorem dX11_drop_40 : decode cX11_drop 40 = .ok (.goto 4, 3) := kq.at kqdX11_drop_38 2 rfl
theorem dX11_drop_43 : decode cX11_drop 43 = .ok (.iconst 0, 1) := kq.at kqdX11_drop_38 3 rfl
theorem dX11_drop_44 : decode cX11_drop 44 = .ok (.ior, 1) := kq.at kqdX11_drop_38 4 rfl
theorem dX11_drop_45 : decode cX11_drop 45 = .ok (.iastore, 1) := kq.at kqdX11_drop_38 5 rfl
theorem dX11_drop_46 : decode cX11_drop 46 = .ok (.aload_n 0, 1) := kq.at kqdX11_drop_38 6 rfl
theorem dX11_drop_47 : decode cX11_drop 47 = .ok (.iconst 0, 1) := kq.at kqdX11_drop_38 7 rfl
theorem dX11_drop_48 : decode cX11_drop 48 = .ok (.invokevirtual 105, 3) := kq.at kqdX11_drop_38 8 rfl
theorem dX11_drop_51 : decode cX11_drop 51 = .ok (.ireturn, 1) := kq.at kqdX11_drop_38 9 rfl
theorem kqdX11_isSet_0 : kq cX11_isSet [(0, .aload_n 0, 1), (1, .getfield 7, 3), (4, .bipush 7, 2), (6, .iaload, 1), (7, .iconst (-1), 1), (8, .if_icmp .eq 7, 3), (11, .iconst 1, 1), (12, .goto 4, 3), (15, .iconst 0, 1), (16, .ireturn, 1)] = true := by decide +kernel
theorem dX11_isSet_0 : decode cX11_isSet 0 = .ok (.aload_n 0, 1) := kq.at kqdX11_isSet_0 0 rfl
theorem dX11_isSet_1 : decode cX11_isSet 1 = .ok (.getfield 7, 3) := kq.at kqdX11_isSet_0 1 rfl
theorem dX11_isSet_4 : decode cX11_isSet 4 = .ok (.bipush 7, 2) := kq.at kqdX11_isSet_0 2 rfl
theorem dX11_isSet_6 : decode cX11_isSet 6 = .ok (.iaload, 1) := kq.at kqdX11_isSet_0 3 rfl
theorem dX11_isSet_7 : decode cX11_isSet 7 = .ok (.iconst (-1), 1) := kq.at kqdX11_isSet_0 4 rfl
theorem dX11_isSet_8 : decode cX11_isSet 8 = .ok (.if_icmp .eq 7, 3) := kq.at kqdX11_isSet_0 5 rfl
theorem dX11_isSet_11 : decode cX11_isSet 11 = .ok (.iconst 1, 1) := kq.at kqdX11_isSet_0 6 rfl
theorem dX11_isSet_12 : decode cX11_isSet 12 = .ok (.goto 4, 3) := kq.at kqdX11_isSet_0 7 rfl
theorem dX11_isSet_15 : decode cX11_isSet 15 = .ok (.iconst 0, 1) := kq.at kqdX11_isSet_0 8 rfl
theorem dX11_isSet_16 : decode cX11_isSet 16 = .ok (.ireturn, 1) := kq.at kqdX11_isSet_0 9 rfl
theorem kqdX11_reset_0 : kq cX11_reset [(0, .aload_n 0, 1), (1, .invokevirtual 306, 3), (4, .ifCond .ne 10, 3), (7, .aload_n 0, 1), (8, .bipush 6, 2), (10, .invokevirtual 188, 3), (13, .ireturn, 1), (14, .aload_n 0, 1), (15, .invokevirtual 309, 3), (18, .aload_n 0, 1), (19, .aload_n 0, 1), (20, .getfield 7, 3), (23, .bipush 6, 2), (25, .iaload, 1), (26, .invokevirtual 291, 3), (29, .ifCond .ne 10, 3), (32, .aload_n 0, 1), (33, .bipush 7, 2), (35, .invokevirtual 188, 3), (38, .ireturn, 1), (39, .aload_n 0, 1), (40, .invokevirtual 294, 3), (43, .aload_n 0, 1), (44, .aload_n 0, 1)] = true := by decide +kernel
theorem dX11_reset_0 : decode cX11_reset 0 = .ok (.aload_n 0, 1) := kq.at kqdX11_reset_0 0 rfl
theorem dX11_reset_1 : decode cX11_reset 1 = .ok (.invokevirtual 306, 3) := kq.at kqdX11_reset_0 1 rfl
theorem dX11_reset_4 : decode cX11_reset 4 = .ok (.ifCond .ne 10, 3) := kq.at kqdX11_reset_0 2 rfl
theorem dX11_reset_7 : decode cX11_reset 7 = .ok (.aload_n 0, 1) := kq.at kqdX11_reset_0 3 rfl
theorem dX11_reset_8 : decode cX11_reset 8 = .ok (.bipush 6, 2) := kq.at kqdX11_reset_0 4 rfl
theorem dX11_reset_10 : decode cX11_reset 10 = .ok (.invokevirtual 188, 3) := kq.at kqdX11_reset_0 5 rfl
theorem dX11_reset_13 : decode cX11_reset 13 = .ok (.ireturn, 1) := kq.at kqdX11_reset_0 6 rfl
theorem dX11_reset_14 : decode cX11_reset 14 = .ok (.aload_n 0, 1) := kq.at kqdX11_reset_0 7 rfl
theorem dX11_reset_15 : decode cX11_reset 15 = .ok (.invokevirtual 309, 3) := kq.at kqdX11_reset_0 8 rfl
theorem dX11_reset_18 : decode cX11_reset 18 = .ok (.aload_n 0, 1) := kq.at kqdX11_reset_0 9 rfl
theorem dX11_reset_19 : decode cX11_reset 19 = .ok (.aload_n 0, 1) := kq.at kqdX11_reset_0 10 rfl
theorem dX11_reset_20 : decode cX11_reset 20 = .ok (.getfield 7, 3) := kq.at kqdX11_reset_0 11 rfl
theorem dX11_reset_23 : decode cX11_reset 23 = .ok (.bipush 6, 2) := kq.at kqdX11_reset_0 12 rfl
theorem dX11_reset_25 : decode cX11_reset 25 = .ok (.iaload, 1) := kq.at kqdX11_reset_0 13 rfl
theorem dX11_reset_26 : decode cX11_reset 26 = .ok (.invokevirtual 291, 3) := kq.at kqdX11_reset_0 14 rfl
theorem dX11_reset_29 : decode cX11_reset 29 = .ok (.ifCond .ne 10, 3) := kq.at kqdX11_reset_0 15 rfl
theorem dX11_reset_32 : decode cX11_reset 32 = .ok (.aload_n 0, 1) := kq.at kqdX11_reset_0 16 rfl
theorem dX11_reset_33 : decode cX11_reset 33 = .ok (.bipush 7, 2) := kq.at kqdX11_reset_0 17 rfl
theorem dX11_reset_35 : decode cX11_reset 35 = .ok (.invokevirtual 188, 3) := kq.at kqdX11_reset_0 18 rfl
theorem dX11_reset_38 : decode cX11_reset 38 = .ok (.ireturn, 1) := kq.at kqdX11_reset_0 19 rfl
theorem dX11_reset_39 : decode cX11_reset 39 = .ok (.aload_n 0, 1) := kq.at kqdX11_reset_0 20 rfl
theorem dX11_reset_40 : decode cX11_reset 40 = .ok (.invokevirtual 294, 3) := kq.at kqdX11_reset_0 21 rfl
theorem dX11_reset_43 : decode cX11_reset 43 = .ok (.aload_n 0, 1) := kq.at kqdX11_reset_0 22 rfl
theorem dX11_reset_44 : decode cX11_reset 44 = .ok (.aload_n 0, 1) := kq.at kqdX11_reset_0 23 rfl
theorem kqdX11_reset_45 : kq cX11_reset [(45, .getfield 7, 3), (48, .bipush 8, 2), (50, .iaload, 1), (51, .invokevirtual 191, 3), (54, .ireturn, 1)] = true := by decide +kernel
theorem dX11_reset_45 : decode cX11_reset 45 = .ok (.getfield 7, 3) := kq.at kqdX11_reset_45 0 rfl
theorem dX11_reset_48 : decode cX11_reset 48 = .ok (.bipush 8, 2) := kq.at kqdX11_reset_45 1 rfl
theorem dX11_reset_50 : decode cX11_reset 50 = .ok (.iaload, 1) := kq.at kqdX11_reset_45 2 rfl
theorem dX11_reset_51 : decode cX11_reset 51 = .ok (.invokevirtual 191, 3) := kq.at kqdX11_reset_45 3 rfl
theorem dX11_reset_54 : decode cX11_reset 54 = .ok (.ireturn, 1) := kq.at kqdX11_reset_45 4 rfl
theorem kqdX11_pieceMany_0 : kq cX11_pieceMany [(0, .iload_n 1, 1), (1, .iconst 1, 1), (2, .iadd, 1), (3, .aload_n 0, 1), (4, .getfield 7, 3), (7, .bipush 9, 2), (9, .iaload, 1), (10, .if_icmp .ge 20, 3), (13, .aload_n 0, 1), (14, .getfield 7, 3), (17, .sipush 1850, 3), (20, .iload_n 1, 1), (21, .iadd, 1), (22, .iconst 1, 1), (23, .iadd, 1), (24, .iaload, 1), (25, .iconst 1, 1), (26, .isub, 1), (27, .goto 10, 3), (30, .aload_n 0, 1), (31, .getfield 7, 3), (34, .bipush 8, 2), (36, .iaload, 1), (37, .aload_n 0, 1)] = true := by decide +kernel
theorem dX11_pieceMany_0 : decode cX11_pieceMany 0 = .ok (.iload_n 1, 1) := kq.at kqdX11_pieceMany_0 0 rfl
theorem dX11_pieceMany_1 : decode cX11_pieceMany 1 = .ok (.iconst 1, 1) := kq.at kqdX11_pieceMany_0 1 rfl
theorem dX11_pieceMany_2 : decode cX11_pieceMany 2 = .ok (.iadd, 1) := kq.at kqdX11_pieceMany_0 2 rfl
theorem dX11_pieceMany_3 : decode cX11_pieceMany 3 = .ok (.aload_n 0, 1) := kq.at kqdX11_pieceMany_0 3 rfl
theorem dX11_pieceMany_4 : decode cX11_pieceMany 4 = .ok (.getfield 7, 3) := kq.at kqdX11_pieceMany_0 4 rfl
theorem dX11_pieceMany_7 : decode cX11_pieceMany 7 = .ok (.bipush 9, 2) := kq.at kqdX11_pieceMany_0 5 rfl
theorem dX11_pieceMany_9 : decode cX11_pieceMany 9 = .ok (.iaload, 1) := kq.at kqdX11_pieceMany_0 6 rfl
theorem dX11_pieceMany_10 : decode cX11_pieceMany 10 = .ok (.if_icmp .ge 20, 3) := kq.at kqdX11_pieceMany_0 7 rfl
theorem dX11_pieceMany_13 : decode cX11_pieceMany 13 = .ok (.aload_n 0, 1) := kq.at kqdX11_pieceMany_0 8 rfl
theorem dX11_pieceMany_14 : decode cX11_pieceMany 14 = .ok (.getfield 7, 3) := kq.at kqdX11_pieceMany_0 9 rfl
theorem dX11_pieceMany_17 : decode cX11_pieceMany 17 = .ok (.sipush 1850, 3) := kq.at kqdX11_pieceMany_0 10 rfl
theorem dX11_pieceMany_20 : decode cX11_pieceMany 20 = .ok (.iload_n 1, 1) := kq.at kqdX11_pieceMany_0 11 rfl
theorem dX11_pieceMany_21 : decode cX11_pieceMany 21 = .ok (.iadd, 1) := kq.at kqdX11_pieceMany_0 12 rfl
theorem dX11_pieceMany_22 : decode cX11_pieceMany 22 = .ok (.iconst 1, 1) := kq.at kqdX11_pieceMany_0 13 rfl
theorem dX11_pieceMany_23 : decode cX11_pieceMany 23 = .ok (.iadd, 1) := kq.at kqdX11_pieceMany_0 14 rfl
theorem dX11_pieceMany_24 : decode cX11_pieceMany 24 = .ok (.iaload, 1) := kq.at kqdX11_pieceMany_0 15 rfl
theorem dX11_pieceMany_25 : decode cX11_pieceMany 25 = .ok (.iconst 1, 1) := kq.at kqdX11_pieceMany_0 16 rfl
theorem dX11_pieceMany_26 : decode cX11_pieceMany 26 = .ok (.isub, 1) := kq.at kqdX11_pieceMany_0 17 rfl
theorem dX11_pieceMany_27 : decode cX11_pieceMany 27 = .ok (.goto 10, 3) := kq.at kqdX11_pieceMany_0 18 rfl
theorem dX11_pieceMany_30 : decode cX11_pieceMany 30 = .ok (.aload_n 0, 1) := kq.at kqdX11_pieceMany_0 19 rfl
theorem dX11_pieceMany_31 : decode cX11_pieceMany 31 = .ok (.getfield 7, 3) := kq.at kqdX11_pieceMany_0 20 rfl
theorem dX11_pieceMany_34 : decode cX11_pieceMany 34 = .ok (.bipush 8, 2) := kq.at kqdX11_pieceMany_0 21 rfl
theorem dX11_pieceMany_36 : decode cX11_pieceMany 36 = .ok (.iaload, 1) := kq.at kqdX11_pieceMany_0 22 rfl
theorem dX11_pieceMany_37 : decode cX11_pieceMany 37 = .ok (.aload_n 0, 1) := kq.at kqdX11_pieceMany_0 23 rfl
theorem kqdX11_pieceMany_38 : kq cX11_pieceMany [(38, .getfield 7, 3), (41, .sipush 1850, 3), (44, .iload_n 1, 1), (45, .iadd, 1), (46, .iaload, 1), (47, .isub, 1), (48, .ireturn, 1)] = true := by decide +kernel
theorem dX11_pieceMany_38 : decode cX11_pieceMany 38 = .ok (.getfield 7, 3) := kq.at kqdX11_pieceMany_38 0 rfl
theorem dX11_pieceMany_41 : decode cX11_pieceMany 41 = .ok (.sipush 1850, 3) := kq.at kqdX11_pieceMany_38 1 rfl
theorem dX11_pieceMany_44 : decode cX11_pieceMany 44 = .ok (.iload_n 1, 1) := kq.at kqdX11_pieceMany_38 2 rfl
theorem dX11_pieceMany_45 : decode cX11_pieceMany 45 = .ok (.iadd, 1) := kq.at kqdX11_pieceMany_38 3 rfl
theorem dX11_pieceMany_46 : decode cX11_pieceMany 46 = .ok (.iaload, 1) := kq.at kqdX11_pieceMany_38 4 rfl
theorem dX11_pieceMany_47 : decode cX11_pieceMany 47 = .ok (.isub, 1) := kq.at kqdX11_pieceMany_38 5 rfl
theorem dX11_pieceMany_48 : decode cX11_pieceMany 48 = .ok (.ireturn, 1) := kq.at kqdX11_pieceMany_38 6 rfl
theorem kqdX11_laysCell_0 : kq cX11_laysCell [(0, .aload_n 0, 1), (1, .getfield 41, 3), (4, .aload_n 0, 1), (5, .getfield 312, 3), (8, .iload_n 1, 1), (9, .iastore, 1), (10, .aload_n 0, 1), (11, .dup, 1), (12, .getfield 312, 3), (15, .iconst 1, 1), (16, .iadd, 1), (17, .putfield 312, 3), (20, .aload_n 0, 1), (21, .getfield 47, 3), (24, .aload_n 0, 1), (25, .getfield 315, 3), (28, .iconst 1, 1), (29, .isub, 1), (30, .dup2, 1), (31, .iaload, 1), (32, .iconst 1, 1), (33, .iadd, 1), (34, .iastore, 1), (35, .return_, 1)] = true := by decide +kernel
theorem dX11_laysCell_0 : decode cX11_laysCell 0 = .ok (.aload_n 0, 1) := kq.at kqdX11_laysCell_0 0 rfl
theorem dX11_laysCell_1 : decode cX11_laysCell 1 = .ok (.getfield 41, 3) := kq.at kqdX11_laysCell_0 1 rfl
theorem dX11_laysCell_4 : decode cX11_laysCell 4 = .ok (.aload_n 0, 1) := kq.at kqdX11_laysCell_0 2 rfl
theorem dX11_laysCell_5 : decode cX11_laysCell 5 = .ok (.getfield 312, 3) := kq.at kqdX11_laysCell_0 3 rfl
theorem dX11_laysCell_8 : decode cX11_laysCell 8 = .ok (.iload_n 1, 1) := kq.at kqdX11_laysCell_0 4 rfl
theorem dX11_laysCell_9 : decode cX11_laysCell 9 = .ok (.iastore, 1) := kq.at kqdX11_laysCell_0 5 rfl
theorem dX11_laysCell_10 : decode cX11_laysCell 10 = .ok (.aload_n 0, 1) := kq.at kqdX11_laysCell_0 6 rfl
theorem dX11_laysCell_11 : decode cX11_laysCell 11 = .ok (.dup, 1) := kq.at kqdX11_laysCell_0 7 rfl
theorem dX11_laysCell_12 : decode cX11_laysCell 12 = .ok (.getfield 312, 3) := kq.at kqdX11_laysCell_0 8 rfl
theorem dX11_laysCell_15 : decode cX11_laysCell 15 = .ok (.iconst 1, 1) := kq.at kqdX11_laysCell_0 9 rfl
theorem dX11_laysCell_16 : decode cX11_laysCell 16 = .ok (.iadd, 1) := kq.at kqdX11_laysCell_0 10 rfl
theorem dX11_laysCell_17 : decode cX11_laysCell 17 = .ok (.putfield 312, 3) := kq.at kqdX11_laysCell_0 11 rfl
theorem dX11_laysCell_20 : decode cX11_laysCell 20 = .ok (.aload_n 0, 1) := kq.at kqdX11_laysCell_0 12 rfl
theorem dX11_laysCell_21 : decode cX11_laysCell 21 = .ok (.getfield 47, 3) := kq.at kqdX11_laysCell_0 13 rfl
theorem dX11_laysCell_24 : decode cX11_laysCell 24 = .ok (.aload_n 0, 1) := kq.at kqdX11_laysCell_0 14 rfl
theorem dX11_laysCell_25 : decode cX11_laysCell 25 = .ok (.getfield 315, 3) := kq.at kqdX11_laysCell_0 15 rfl
theorem dX11_laysCell_28 : decode cX11_laysCell 28 = .ok (.iconst 1, 1) := kq.at kqdX11_laysCell_0 16 rfl
theorem dX11_laysCell_29 : decode cX11_laysCell 29 = .ok (.isub, 1) := kq.at kqdX11_laysCell_0 17 rfl
theorem dX11_laysCell_30 : decode cX11_laysCell 30 = .ok (.dup2, 1) := kq.at kqdX11_laysCell_0 18 rfl
theorem dX11_laysCell_31 : decode cX11_laysCell 31 = .ok (.iaload, 1) := kq.at kqdX11_laysCell_0 19 rfl
theorem dX11_laysCell_32 : decode cX11_laysCell 32 = .ok (.iconst 1, 1) := kq.at kqdX11_laysCell_0 20 rfl
theorem dX11_laysCell_33 : decode cX11_laysCell 33 = .ok (.iadd, 1) := kq.at kqdX11_laysCell_0 21 rfl
theorem dX11_laysCell_34 : decode cX11_laysCell 34 = .ok (.iastore, 1) := kq.at kqdX11_laysCell_0 22 rfl
theorem dX11_laysCell_35 : decode cX11_laysCell 35 = .ok (.return_, 1) := kq.at kqdX11_laysCell_0 23 rfl
theorem kqdX11_newLine_0 : kq cX11_newLine [(0, .aload_n 0, 1), (1, .getfield 44, 3), (4, .aload_n 0, 1), (5, .getfield 315, 3), (8, .aload_n 0, 1), (9, .getfield 312, 3), (12, .iastore, 1), (13, .aload_n 0, 1), (14, .getfield 47, 3), (17, .aload_n 0, 1), (18, .getfield 315, 3), (21, .iconst 0, 1), (22, .iastore, 1), (23, .aload_n 0, 1), (24, .dup, 1), (25, .getfield 315, 3), (28, .iconst 1, 1), (29, .iadd, 1), (30, .putfield 315, 3), (33, .return_, 1)] = true := by decide +kernel
theorem dX11_newLine_0 : decode cX11_newLine 0 = .ok (.aload_n 0, 1) := kq.at kqdX11_newLine_0 0 rfl
theorem dX11_newLine_1 : decode cX11_newLine 1 = .ok (.getfield 44, 3) := kq.at kqdX11_newLine_0 1 rfl
theorem dX11_newLine_4 : decode cX11_newLine 4 = .ok (.aload_n 0, 1) := kq.at kqdX11_newLine_0 2 rfl
theorem dX11_newLine_5 : decode cX11_newLine 5 = .ok (.getfield 315, 3) := kq.at kqdX11_newLine_0 3 rfl
theorem dX11_newLine_8 : decode cX11_newLine 8 = .ok (.aload_n 0, 1) := kq.at kqdX11_newLine_0 4 rfl
theorem dX11_newLine_9 : decode cX11_newLine 9 = .ok (.getfield 312, 3) := kq.at kqdX11_newLine_0 5 rfl
theorem dX11_newLine_12 : decode cX11_newLine 12 = .ok (.iastore, 1) := kq.at kqdX11_newLine_0 6 rfl
theorem dX11_newLine_13 : decode cX11_newLine 13 = .ok (.aload_n 0, 1) := kq.at kqdX11_newLine_0 7 rfl
theorem dX11_newLine_14 : decode cX11_newLine 14 = .ok (.getfield 47, 3) := kq.at kqdX11_newLine_0 8 rfl
theorem dX11_newLine_17 : decode cX11_newLine 17 = .ok (.aload_n 0, 1) := kq.at kqdX11_newLine_0 9 rfl
theorem dX11_newLine_18 : decode cX11_newLine 18 = .ok (.getfield 315, 3) := kq.at kqdX11_newLine_0 10 rfl
theorem dX11_newLine_21 : decode cX11_newLine 21 = .ok (.iconst 0, 1) := kq.at kqdX11_newLine_0 11 rfl
theorem dX11_newLine_22 : decode cX11_newLine 22 = .ok (.iastore, 1) := kq.at kqdX11_newLine_0 12 rfl
theorem dX11_newLine_23 : decode cX11_newLine 23 = .ok (.aload_n 0, 1) := kq.at kqdX11_newLine_0 13 rfl
theorem dX11_newLine_24 : decode cX11_newLine 24 = .ok (.dup, 1) := kq.at kqdX11_newLine_0 14 rfl
theorem dX11_newLine_25 : decode cX11_newLine 25 = .ok (.getfield 315, 3) := kq.at kqdX11_newLine_0 15 rfl
theorem dX11_newLine_28 : decode cX11_newLine 28 = .ok (.iconst 1, 1) := kq.at kqdX11_newLine_0 16 rfl
theorem dX11_newLine_29 : decode cX11_newLine 29 = .ok (.iadd, 1) := kq.at kqdX11_newLine_0 17 rfl
theorem dX11_newLine_30 : decode cX11_newLine 30 = .ok (.putfield 315, 3) := kq.at kqdX11_newLine_0 18 rfl
theorem dX11_newLine_33 : decode cX11_newLine 33 = .ok (.return_, 1) := kq.at kqdX11_newLine_0 19 rfl
theorem kqdX11_laysLines_0 : kq cX11_laysLines [(0, .aload_n 0, 1), (1, .iconst 0, 1), (2, .putfield 315, 3), (5, .aload_n 0, 1), (6, .iconst 0, 1), (7, .putfield 312, 3), (10, .aload_n 0, 1), (11, .iconst 0, 1), (12, .putfield 318, 3), (15, .aload_n 0, 1), (16, .getfield 7, 3), (19, .iconst 4, 1), (20, .iaload, 1), (21, .istore_n 1, 1), (22, .iconst 0, 1), (23, .istore_n 2, 1), (24, .iload_n 2, 1), (25, .aload_n 0, 1), (26, .getfield 7, 3), (29, .bipush 9, 2), (31, .iaload, 1), (32, .if_icmp .ge 236, 3), (35, .aload_n 0, 1), (36, .iload_n 2, 1)] = true := by decide +kernel
theorem dX11_laysLines_0 : decode cX11_laysLines 0 = .ok (.aload_n 0, 1) := kq.at kqdX11_laysLines_0 0 rfl
theorem dX11_laysLines_1 : decode cX11_laysLines 1 = .ok (.iconst 0, 1) := kq.at kqdX11_laysLines_0 1 rfl
theorem dX11_laysLines_2 : decode cX11_laysLines 2 = .ok (.putfield 315, 3) := kq.at kqdX11_laysLines_0 2 rfl
theorem dX11_laysLines_5 : decode cX11_laysLines 5 = .ok (.aload_n 0, 1) := kq.at kqdX11_laysLines_0 3 rfl
theorem dX11_laysLines_6 : decode cX11_laysLines 6 = .ok (.iconst 0, 1) := kq.at kqdX11_laysLines_0 4 rfl
theorem dX11_laysLines_7 : decode cX11_laysLines 7 = .ok (.putfield 312, 3) := kq.at kqdX11_laysLines_0 5 rfl
theorem dX11_laysLines_10 : decode cX11_laysLines 10 = .ok (.aload_n 0, 1) := kq.at kqdX11_laysLines_0 6 rfl
theorem dX11_laysLines_11 : decode cX11_laysLines 11 = .ok (.iconst 0, 1) := kq.at kqdX11_laysLines_0 7 rfl
theorem dX11_laysLines_12 : decode cX11_laysLines 12 = .ok (.putfield 318, 3) := kq.at kqdX11_laysLines_0 8 rfl
theorem dX11_laysLines_15 : decode cX11_laysLines 15 = .ok (.aload_n 0, 1) := kq.at kqdX11_laysLines_0 9 rfl
theorem dX11_laysLines_16 : decode cX11_laysLines 16 = .ok (.getfield 7, 3) := kq.at kqdX11_laysLines_0 10 rfl
theorem dX11_laysLines_19 : decode cX11_laysLines 19 = .ok (.iconst 4, 1) := kq.at kqdX11_laysLines_0 11 rfl
theorem dX11_laysLines_20 : decode cX11_laysLines 20 = .ok (.iaload, 1) := kq.at kqdX11_laysLines_0 12 rfl
theorem dX11_laysLines_21 : decode cX11_laysLines 21 = .ok (.istore_n 1, 1) := kq.at kqdX11_laysLines_0 13 rfl
theorem dX11_laysLines_22 : decode cX11_laysLines 22 = .ok (.iconst 0, 1) := kq.at kqdX11_laysLines_0 14 rfl
theorem dX11_laysLines_23 : decode cX11_laysLines 23 = .ok (.istore_n 2, 1) := kq.at kqdX11_laysLines_0 15 rfl
theorem dX11_laysLines_24 : decode cX11_laysLines 24 = .ok (.iload_n 2, 1) := kq.at kqdX11_laysLines_0 16 rfl
theorem dX11_laysLines_25 : decode cX11_laysLines 25 = .ok (.aload_n 0, 1) := kq.at kqdX11_laysLines_0 17 rfl
theorem dX11_laysLines_26 : decode cX11_laysLines 26 = .ok (.getfield 7, 3) := kq.at kqdX11_laysLines_0 18 rfl
theorem dX11_laysLines_29 : decode cX11_laysLines 29 = .ok (.bipush 9, 2) := kq.at kqdX11_laysLines_0 19 rfl
theorem dX11_laysLines_31 : decode cX11_laysLines 31 = .ok (.iaload, 1) := kq.at kqdX11_laysLines_0 20 rfl
theorem dX11_laysLines_32 : decode cX11_laysLines 32 = .ok (.if_icmp .ge 236, 3) := kq.at kqdX11_laysLines_0 21 rfl
theorem dX11_laysLines_35 : decode cX11_laysLines 35 = .ok (.aload_n 0, 1) := kq.at kqdX11_laysLines_0 22 rfl
theorem dX11_laysLines_36 : decode cX11_laysLines 36 = .ok (.iload_n 2, 1) := kq.at kqdX11_laysLines_0 23 rfl
theorem kqdX11_laysLines_37 : kq cX11_laysLines [(37, .invokevirtual 321, 3), (40, .istore_n 3, 1), (41, .aload_n 0, 1), (42, .getfield 315, 3), (45, .ifCond .eq 22, 3), (48, .aload_n 0, 1), (49, .getfield 47, 3), (52, .aload_n 0, 1), (53, .getfield 315, 3), (56, .iconst 1, 1), (57, .isub, 1), (58, .iaload, 1), (59, .iconst 1, 1), (60, .iadd, 1), (61, .iload_n 3, 1), (62, .iadd, 1), (63, .iload_n 1, 1), (64, .if_icmp .le 10, 3), (67, .aload_n 0, 1), (68, .invokevirtual 324, 3), (71, .goto 8, 3), (74, .aload_n 0, 1), (75, .iconst 0, 1), (76, .invokevirtual 327, 3)] = true := by decide +kernel
theorem dX11_laysLines_37 : decode cX11_laysLines 37 = .ok (.invokevirtual 321, 3) := kq.at kqdX11_laysLines_37 0 rfl
theorem dX11_laysLines_40 : decode cX11_laysLines 40 = .ok (.istore_n 3, 1) := kq.at kqdX11_laysLines_37 1 rfl
theorem dX11_laysLines_41 : decode cX11_laysLines 41 = .ok (.aload_n 0, 1) := kq.at kqdX11_laysLines_37 2 rfl
theorem dX11_laysLines_42 : decode cX11_laysLines 42 = .ok (.getfield 315, 3) := kq.at kqdX11_laysLines_37 3 rfl
theorem dX11_laysLines_45 : decode cX11_laysLines 45 = .ok (.ifCond .eq 22, 3) := kq.at kqdX11_laysLines_37 4 rfl
theorem dX11_laysLines_48 : decode cX11_laysLines 48 = .ok (.aload_n 0, 1) := kq.at kqdX11_laysLines_37 5 rfl
theorem dX11_laysLines_49 : decode cX11_laysLines 49 = .ok (.getfield 47, 3) := kq.at kqdX11_laysLines_37 6 rfl
theorem dX11_laysLines_52 : decode cX11_laysLines 52 = .ok (.aload_n 0, 1) := kq.at kqdX11_laysLines_37 7 rfl
theorem dX11_laysLines_53 : decode cX11_laysLines 53 = .ok (.getfield 315, 3) := kq.at kqdX11_laysLines_37 8 rfl
theorem dX11_laysLines_56 : decode cX11_laysLines 56 = .ok (.iconst 1, 1) := kq.at kqdX11_laysLines_37 9 rfl
theorem dX11_laysLines_57 : decode cX11_laysLines 57 = .ok (.isub, 1) := kq.at kqdX11_laysLines_37 10 rfl
theorem dX11_laysLines_58 : decode cX11_laysLines 58 = .ok (.iaload, 1) := kq.at kqdX11_laysLines_37 11 rfl
theorem dX11_laysLines_59 : decode cX11_laysLines 59 = .ok (.iconst 1, 1) := kq.at kqdX11_laysLines_37 12 rfl
theorem dX11_laysLines_60 : decode cX11_laysLines 60 = .ok (.iadd, 1) := kq.at kqdX11_laysLines_37 13 rfl
theorem dX11_laysLines_61 : decode cX11_laysLines 61 = .ok (.iload_n 3, 1) := kq.at kqdX11_laysLines_37 14 rfl
theorem dX11_laysLines_62 : decode cX11_laysLines 62 = .ok (.iadd, 1) := kq.at kqdX11_laysLines_37 15 rfl
theorem dX11_laysLines_63 : decode cX11_laysLines 63 = .ok (.iload_n 1, 1) := kq.at kqdX11_laysLines_37 16 rfl
theorem dX11_laysLines_64 : decode cX11_laysLines 64 = .ok (.if_icmp .le 10, 3) := kq.at kqdX11_laysLines_37 17 rfl
theorem dX11_laysLines_67 : decode cX11_laysLines 67 = .ok (.aload_n 0, 1) := kq.at kqdX11_laysLines_37 18 rfl
theorem dX11_laysLines_68 : decode cX11_laysLines 68 = .ok (.invokevirtual 324, 3) := kq.at kqdX11_laysLines_37 19 rfl
theorem dX11_laysLines_71 : decode cX11_laysLines 71 = .ok (.goto 8, 3) := kq.at kqdX11_laysLines_37 20 rfl
theorem dX11_laysLines_74 : decode cX11_laysLines 74 = .ok (.aload_n 0, 1) := kq.at kqdX11_laysLines_37 21 rfl
theorem dX11_laysLines_75 : decode cX11_laysLines 75 = .ok (.iconst 0, 1) := kq.at kqdX11_laysLines_37 22 rfl
theorem dX11_laysLines_76 : decode cX11_laysLines 76 = .ok (.invokevirtual 327, 3) := kq.at kqdX11_laysLines_37 23 rfl
theorem kqdX11_laysLines_79 : kq cX11_laysLines [(79, .aload_n 0, 1), (80, .getfield 50, 3), (83, .iload_n 2, 1), (84, .aload_n 0, 1), (85, .getfield 315, 3), (88, .iconst 1, 1), (89, .isub, 1), (90, .iastore, 1), (91, .iconst 0, 1), (92, .istore 4, 2), (94, .iload_n 3, 1), (95, .iload 4, 2), (97, .isub, 1), (98, .iload_n 1, 1), (99, .if_icmp .le 109, 3), (102, .aload_n 0, 1), (103, .getfield 7, 3), (106, .iconst 3, 1), (107, .iaload, 1), (108, .ifCond .ne 7, 3), (111, .iload_n 1, 1), (112, .goto 6, 3), (115, .iload_n 1, 1), (116, .iconst 1, 1)] = true := by decide +kernel
theorem dX11_laysLines_79 : decode cX11_laysLines 79 = .ok (.aload_n 0, 1) := kq.at kqdX11_laysLines_79 0 rfl
theorem dX11_laysLines_80 : decode cX11_laysLines 80 = .ok (.getfield 50, 3) := kq.at kqdX11_laysLines_79 1 rfl
theorem dX11_laysLines_83 : decode cX11_laysLines 83 = .ok (.iload_n 2, 1) := kq.at kqdX11_laysLines_79 2 rfl
theorem dX11_laysLines_84 : decode cX11_laysLines 84 = .ok (.aload_n 0, 1) := kq.at kqdX11_laysLines_79 3 rfl
theorem dX11_laysLines_85 : decode cX11_laysLines 85 = .ok (.getfield 315, 3) := kq.at kqdX11_laysLines_79 4 rfl
theorem dX11_laysLines_88 : decode cX11_laysLines 88 = .ok (.iconst 1, 1) := kq.at kqdX11_laysLines_79 5 rfl
theorem dX11_laysLines_89 : decode cX11_laysLines 89 = .ok (.isub, 1) := kq.at kqdX11_laysLines_79 6 rfl
theorem dX11_laysLines_90 : decode cX11_laysLines 90 = .ok (.iastore, 1) := kq.at kqdX11_laysLines_79 7 rfl
theorem dX11_laysLines_91 : decode cX11_laysLines 91 = .ok (.iconst 0, 1) := kq.at kqdX11_laysLines_79 8 rfl
theorem dX11_laysLines_92 : decode cX11_laysLines 92 = .ok (.istore 4, 2) := kq.at kqdX11_laysLines_79 9 rfl
theorem dX11_laysLines_94 : decode cX11_laysLines 94 = .ok (.iload_n 3, 1) := kq.at kqdX11_laysLines_79 10 rfl
theorem dX11_laysLines_95 : decode cX11_laysLines 95 = .ok (.iload 4, 2) := kq.at kqdX11_laysLines_79 11 rfl
theorem dX11_laysLines_97 : decode cX11_laysLines 97 = .ok (.isub, 1) := kq.at kqdX11_laysLines_79 12 rfl
theorem dX11_laysLines_98 : decode cX11_laysLines 98 = .ok (.iload_n 1, 1) := kq.at kqdX11_laysLines_79 13 rfl
theorem dX11_laysLines_99 : decode cX11_laysLines 99 = .ok (.if_icmp .le 109, 3) := kq.at kqdX11_laysLines_79 14 rfl
theorem dX11_laysLines_102 : decode cX11_laysLines 102 = .ok (.aload_n 0, 1) := kq.at kqdX11_laysLines_79 15 rfl
theorem dX11_laysLines_103 : decode cX11_laysLines 103 = .ok (.getfield 7, 3) := kq.at kqdX11_laysLines_79 16 rfl
theorem dX11_laysLines_106 : decode cX11_laysLines 106 = .ok (.iconst 3, 1) := kq.at kqdX11_laysLines_79 17 rfl
theorem dX11_laysLines_107 : decode cX11_laysLines 107 = .ok (.iaload, 1) := kq.at kqdX11_laysLines_79 18 rfl
theorem dX11_laysLines_108 : decode cX11_laysLines 108 = .ok (.ifCond .ne 7, 3) := kq.at kqdX11_laysLines_79 19 rfl
theorem dX11_laysLines_111 : decode cX11_laysLines 111 = .ok (.iload_n 1, 1) := kq.at kqdX11_laysLines_79 20 rfl
theorem dX11_laysLines_112 : decode cX11_laysLines 112 = .ok (.goto 6, 3) := kq.at kqdX11_laysLines_79 21 rfl
theorem dX11_laysLines_115 : decode cX11_laysLines 115 = .ok (.iload_n 1, 1) := kq.at kqdX11_laysLines_79 22 rfl
theorem dX11_laysLines_116 : decode cX11_laysLines 116 = .ok (.iconst 1, 1) := kq.at kqdX11_laysLines_79 23 rfl
theorem kqdX11_laysLines_117 : kq cX11_laysLines [(117, .isub, 1), (118, .istore 5, 2), (120, .iconst 0, 1), (121, .istore 6, 2), (123, .iload 6, 2), (125, .iload 5, 2), (127, .if_icmp .ge 38, 3), (130, .aload_n 0, 1), (131, .aload_n 0, 1), (132, .getfield 7, 3), (135, .sipush 600, 3), (138, .aload_n 0, 1), (139, .getfield 7, 3), (142, .sipush 1850, 3), (145, .iload_n 2, 1), (146, .iadd, 1), (147, .iaload, 1), (148, .iadd, 1), (149, .iload 4, 2), (151, .iadd, 1), (152, .iload 6, 2), (154, .iadd, 1), (155, .iaload, 1), (156, .invokevirtual 327, 3)] = true := by decide +kernel
theorem dX11_laysLines_117 : decode cX11_laysLines 117 = .ok (.isub, 1) := kq.at kqdX11_laysLines_117 0 rfl
theorem dX11_laysLines_118 : decode cX11_laysLines 118 = .ok (.istore 5, 2) := kq.at kqdX11_laysLines_117 1 rfl
theorem dX11_laysLines_120 : decode cX11_laysLines 120 = .ok (.iconst 0, 1) := kq.at kqdX11_laysLines_117 2 rfl
theorem dX11_laysLines_121 : decode cX11_laysLines 121 = .ok (.istore 6, 2) := kq.at kqdX11_laysLines_117 3 rfl
theorem dX11_laysLines_123 : decode cX11_laysLines 123 = .ok (.iload 6, 2) := kq.at kqdX11_laysLines_117 4 rfl
theorem dX11_laysLines_125 : decode cX11_laysLines 125 = .ok (.iload 5, 2) := kq.at kqdX11_laysLines_117 5 rfl
theorem dX11_laysLines_127 : decode cX11_laysLines 127 = .ok (.if_icmp .ge 38, 3) := kq.at kqdX11_laysLines_117 6 rfl
theorem dX11_laysLines_130 : decode cX11_laysLines 130 = .ok (.aload_n 0, 1) := kq.at kqdX11_laysLines_117 7 rfl
theorem dX11_laysLines_131 : decode cX11_laysLines 131 = .ok (.aload_n 0, 1) := kq.at kqdX11_laysLines_117 8 rfl
theorem dX11_laysLines_132 : decode cX11_laysLines 132 = .ok (.getfield 7, 3) := kq.at kqdX11_laysLines_117 9 rfl
theorem dX11_laysLines_135 : decode cX11_laysLines 135 = .ok (.sipush 600, 3) := kq.at kqdX11_laysLines_117 10 rfl
theorem dX11_laysLines_138 : decode cX11_laysLines 138 = .ok (.aload_n 0, 1) := kq.at kqdX11_laysLines_117 11 rfl
theorem dX11_laysLines_139 : decode cX11_laysLines 139 = .ok (.getfield 7, 3) := kq.at kqdX11_laysLines_117 12 rfl
theorem dX11_laysLines_142 : decode cX11_laysLines 142 = .ok (.sipush 1850, 3) := kq.at kqdX11_laysLines_117 13 rfl
theorem dX11_laysLines_145 : decode cX11_laysLines 145 = .ok (.iload_n 2, 1) := kq.at kqdX11_laysLines_117 14 rfl
theorem dX11_laysLines_146 : decode cX11_laysLines 146 = .ok (.iadd, 1) := kq.at kqdX11_laysLines_117 15 rfl
theorem dX11_laysLines_147 : decode cX11_laysLines 147 = .ok (.iaload, 1) := kq.at kqdX11_laysLines_117 16 rfl
theorem dX11_laysLines_148 : decode cX11_laysLines 148 = .ok (.iadd, 1) := kq.at kqdX11_laysLines_117 17 rfl
theorem dX11_laysLines_149 : decode cX11_laysLines 149 = .ok (.iload 4, 2) := kq.at kqdX11_laysLines_117 18 rfl
theorem dX11_laysLines_151 : decode cX11_laysLines 151 = .ok (.iadd, 1) := kq.at kqdX11_laysLines_117 19 rfl
theorem dX11_laysLines_152 : decode cX11_laysLines 152 = .ok (.iload 6, 2) := kq.at kqdX11_laysLines_117 20 rfl
theorem dX11_laysLines_154 : decode cX11_laysLines 154 = .ok (.iadd, 1) := kq.at kqdX11_laysLines_117 21 rfl
theorem dX11_laysLines_155 : decode cX11_laysLines 155 = .ok (.iaload, 1) := kq.at kqdX11_laysLines_117 22 rfl
theorem dX11_laysLines_156 : decode cX11_laysLines 156 = .ok (.invokevirtual 327, 3) := kq.at kqdX11_laysLines_117 23 rfl
theorem kqdX11_laysLines_159 : kq cX11_laysLines [(159, .iinc 6 1, 3), (162, .goto (-39), 3), (165, .aload_n 0, 1), (166, .getfield 7, 3), (169, .iconst 3, 1), (170, .iaload, 1), (171, .ifCond .eq 23, 3), (174, .aload_n 0, 1), (175, .aload_n 0, 1), (176, .getfield 7, 3), (179, .iconst 3, 1), (180, .iaload, 1), (181, .invokevirtual 327, 3), (184, .aload_n 0, 1), (185, .dup, 1), (186, .getfield 318, 3), (189, .iconst 1, 1), (190, .iadd, 1), (191, .putfield 318, 3), (194, .iload 4, 2), (196, .iload 5, 2), (198, .iadd, 1), (199, .istore 4, 2), (201, .aload_n 0, 1)] = true := by decide +kernel
theorem dX11_laysLines_159 : decode cX11_laysLines 159 = .ok (.iinc 6 1, 3) := kq.at kqdX11_laysLines_159 0 rfl
theorem dX11_laysLines_162 : decode cX11_laysLines 162 = .ok (.goto (-39), 3) := kq.at kqdX11_laysLines_159 1 rfl
theorem dX11_laysLines_165 : decode cX11_laysLines 165 = .ok (.aload_n 0, 1) := kq.at kqdX11_laysLines_159 2 rfl
theorem dX11_laysLines_166 : decode cX11_laysLines 166 = .ok (.getfield 7, 3) := kq.at kqdX11_laysLines_159 3 rfl
theorem dX11_laysLines_169 : decode cX11_laysLines 169 = .ok (.iconst 3, 1) := kq.at kqdX11_laysLines_159 4 rfl
theorem dX11_laysLines_170 : decode cX11_laysLines 170 = .ok (.iaload, 1) := kq.at kqdX11_laysLines_159 5 rfl
theorem dX11_laysLines_171 : decode cX11_laysLines 171 = .ok (.ifCond .eq 23, 3) := kq.at kqdX11_laysLines_159 6 rfl
theorem dX11_laysLines_174 : decode cX11_laysLines 174 = .ok (.aload_n 0, 1) := kq.at kqdX11_laysLines_159 7 rfl
theorem dX11_laysLines_175 : decode cX11_laysLines 175 = .ok (.aload_n 0, 1) := kq.at kqdX11_laysLines_159 8 rfl
theorem dX11_laysLines_176 : decode cX11_laysLines 176 = .ok (.getfield 7, 3) := kq.at kqdX11_laysLines_159 9 rfl
theorem dX11_laysLines_179 : decode cX11_laysLines 179 = .ok (.iconst 3, 1) := kq.at kqdX11_laysLines_159 10 rfl
theorem dX11_laysLines_180 : decode cX11_laysLines 180 = .ok (.iaload, 1) := kq.at kqdX11_laysLines_159 11 rfl
theorem dX11_laysLines_181 : decode cX11_laysLines 181 = .ok (.invokevirtual 327, 3) := kq.at kqdX11_laysLines_159 12 rfl
theorem dX11_laysLines_184 : decode cX11_laysLines 184 = .ok (.aload_n 0, 1) := kq.at kqdX11_laysLines_159 13 rfl
theorem dX11_laysLines_185 : decode cX11_laysLines 185 = .ok (.dup, 1) := kq.at kqdX11_laysLines_159 14 rfl
theorem dX11_laysLines_186 : decode cX11_laysLines 186 = .ok (.getfield 318, 3) := kq.at kqdX11_laysLines_159 15 rfl
theorem dX11_laysLines_189 : decode cX11_laysLines 189 = .ok (.iconst 1, 1) := kq.at kqdX11_laysLines_159 16 rfl
theorem dX11_laysLines_190 : decode cX11_laysLines 190 = .ok (.iadd, 1) := kq.at kqdX11_laysLines_159 17 rfl
theorem dX11_laysLines_191 : decode cX11_laysLines 191 = .ok (.putfield 318, 3) := kq.at kqdX11_laysLines_159 18 rfl
theorem dX11_laysLines_194 : decode cX11_laysLines 194 = .ok (.iload 4, 2) := kq.at kqdX11_laysLines_159 19 rfl
theorem dX11_laysLines_196 : decode cX11_laysLines 196 = .ok (.iload 5, 2) := kq.at kqdX11_laysLines_159 20 rfl
theorem dX11_laysLines_198 : decode cX11_laysLines 198 = .ok (.iadd, 1) := kq.at kqdX11_laysLines_159 21 rfl
theorem dX11_laysLines_199 : decode cX11_laysLines 199 = .ok (.istore 4, 2) := kq.at kqdX11_laysLines_159 22 rfl
theorem dX11_laysLines_201 : decode cX11_laysLines 201 = .ok (.aload_n 0, 1) := kq.at kqdX11_laysLines_159 23 rfl
theorem kqdX11_laysLines_202 : kq cX11_laysLines [(202, .invokevirtual 324, 3), (205, .goto (-111), 3), (208, .iload 4, 2), (210, .istore 5, 2), (212, .iload 5, 2), (214, .iload_n 3, 1), (215, .if_icmp .ge 35, 3), (218, .aload_n 0, 1), (219, .aload_n 0, 1), (220, .getfield 7, 3), (223, .sipush 600, 3), (226, .aload_n 0, 1), (227, .getfield 7, 3), (230, .sipush 1850, 3), (233, .iload_n 2, 1), (234, .iadd, 1), (235, .iaload, 1), (236, .iadd, 1), (237, .iload 5, 2), (239, .iadd, 1), (240, .iaload, 1), (241, .invokevirtual 327, 3), (244, .iinc 5 1, 3), (247, .goto (-35), 3)] = true := by decide +kernel
theorem dX11_laysLines_202 : decode cX11_laysLines 202 = .ok (.invokevirtual 324, 3) := kq.at kqdX11_laysLines_202 0 rfl
theorem dX11_laysLines_205 : decode cX11_laysLines 205 = .ok (.goto (-111), 3) := kq.at kqdX11_laysLines_202 1 rfl
theorem dX11_laysLines_208 : decode cX11_laysLines 208 = .ok (.iload 4, 2) := kq.at kqdX11_laysLines_202 2 rfl
theorem dX11_laysLines_210 : decode cX11_laysLines 210 = .ok (.istore 5, 2) := kq.at kqdX11_laysLines_202 3 rfl
theorem dX11_laysLines_212 : decode cX11_laysLines 212 = .ok (.iload 5, 2) := kq.at kqdX11_laysLines_202 4 rfl
theorem dX11_laysLines_214 : decode cX11_laysLines 214 = .ok (.iload_n 3, 1) := kq.at kqdX11_laysLines_202 5 rfl
theorem dX11_laysLines_215 : decode cX11_laysLines 215 = .ok (.if_icmp .ge 35, 3) := kq.at kqdX11_laysLines_202 6 rfl
theorem dX11_laysLines_218 : decode cX11_laysLines 218 = .ok (.aload_n 0, 1) := kq.at kqdX11_laysLines_202 7 rfl
theorem dX11_laysLines_219 : decode cX11_laysLines 219 = .ok (.aload_n 0, 1) := kq.at kqdX11_laysLines_202 8 rfl
theorem dX11_laysLines_220 : decode cX11_laysLines 220 = .ok (.getfield 7, 3) := kq.at kqdX11_laysLines_202 9 rfl
theorem dX11_laysLines_223 : decode cX11_laysLines 223 = .ok (.sipush 600, 3) := kq.at kqdX11_laysLines_202 10 rfl
theorem dX11_laysLines_226 : decode cX11_laysLines 226 = .ok (.aload_n 0, 1) := kq.at kqdX11_laysLines_202 11 rfl
theorem dX11_laysLines_227 : decode cX11_laysLines 227 = .ok (.getfield 7, 3) := kq.at kqdX11_laysLines_202 12 rfl
theorem dX11_laysLines_230 : decode cX11_laysLines 230 = .ok (.sipush 1850, 3) := kq.at kqdX11_laysLines_202 13 rfl
theorem dX11_laysLines_233 : decode cX11_laysLines 233 = .ok (.iload_n 2, 1) := kq.at kqdX11_laysLines_202 14 rfl
theorem dX11_laysLines_234 : decode cX11_laysLines 234 = .ok (.iadd, 1) := kq.at kqdX11_laysLines_202 15 rfl
theorem dX11_laysLines_235 : decode cX11_laysLines 235 = .ok (.iaload, 1) := kq.at kqdX11_laysLines_202 16 rfl
theorem dX11_laysLines_236 : decode cX11_laysLines 236 = .ok (.iadd, 1) := kq.at kqdX11_laysLines_202 17 rfl
theorem dX11_laysLines_237 : decode cX11_laysLines 237 = .ok (.iload 5, 2) := kq.at kqdX11_laysLines_202 18 rfl
theorem dX11_laysLines_239 : decode cX11_laysLines 239 = .ok (.iadd, 1) := kq.at kqdX11_laysLines_202 19 rfl
theorem dX11_laysLines_240 : decode cX11_laysLines 240 = .ok (.iaload, 1) := kq.at kqdX11_laysLines_202 20 rfl
theorem dX11_laysLines_241 : decode cX11_laysLines 241 = .ok (.invokevirtual 327, 3) := kq.at kqdX11_laysLines_202 21 rfl
theorem dX11_laysLines_244 : decode cX11_laysLines 244 = .ok (.iinc 5 1, 3) := kq.at kqdX11_laysLines_202 22 rfl
theorem dX11_laysLines_247 : decode cX11_laysLines 247 = .ok (.goto (-35), 3) := kq.at kqdX11_laysLines_202 23 rfl
theorem kqdX11_laysLines_250 : kq cX11_laysLines [(250, .aload_n 0, 1), (251, .getfield 53, 3), (254, .iload_n 2, 1), (255, .aload_n 0, 1), (256, .getfield 315, 3), (259, .iconst 1, 1), (260, .isub, 1), (261, .iastore, 1), (262, .iinc 2 1, 3), (265, .goto (-241), 3), (268, .return_, 1)] = true := by decide +kernel
theorem dX11_laysLines_250 : decode cX11_laysLines 250 = .ok (.aload_n 0, 1) := kq.at kqdX11_laysLines_250 0 rfl
theorem dX11_laysLines_251 : decode cX11_laysLines 251 = .ok (.getfield 53, 3) := kq.at kqdX11_laysLines_250 1 rfl
theorem dX11_laysLines_254 : decode cX11_laysLines 254 = .ok (.iload_n 2, 1) := kq.at kqdX11_laysLines_250 2 rfl
theorem dX11_laysLines_255 : decode cX11_laysLines 255 = .ok (.aload_n 0, 1) := kq.at kqdX11_laysLines_250 3 rfl
theorem dX11_laysLines_256 : decode cX11_laysLines 256 = .ok (.getfield 315, 3) := kq.at kqdX11_laysLines_250 4 rfl
theorem dX11_laysLines_259 : decode cX11_laysLines 259 = .ok (.iconst 1, 1) := kq.at kqdX11_laysLines_250 5 rfl
theorem dX11_laysLines_260 : decode cX11_laysLines 260 = .ok (.isub, 1) := kq.at kqdX11_laysLines_250 6 rfl
theorem dX11_laysLines_261 : decode cX11_laysLines 261 = .ok (.iastore, 1) := kq.at kqdX11_laysLines_250 7 rfl
theorem dX11_laysLines_262 : decode cX11_laysLines 262 = .ok (.iinc 2 1, 3) := kq.at kqdX11_laysLines_250 8 rfl
theorem dX11_laysLines_265 : decode cX11_laysLines 265 = .ok (.goto (-241), 3) := kq.at kqdX11_laysLines_250 9 rfl
theorem dX11_laysLines_268 : decode cX11_laysLines 268 = .ok (.return_, 1) := kq.at kqdX11_laysLines_250 10 rfl
theorem kqdX11_size_0 : kq cX11_size [(0, .iload_n 1, 1), (1, .ifCond .lt 8, 3), (4, .iload_n 1, 1), (5, .iconst 4, 1), (6, .if_icmp .le 9, 3), (9, .aload_n 0, 1), (10, .iconst 1, 1), (11, .invokevirtual 188, 3), (14, .ireturn, 1), (15, .aload_n 0, 1), (16, .invokevirtual 306, 3), (19, .ifCond .ne 10, 3), (22, .aload_n 0, 1), (23, .bipush 6, 2), (25, .invokevirtual 188, 3), (28, .ireturn, 1), (29, .aload_n 0, 1), (30, .invokevirtual 330, 3), (33, .aload_n 0, 1), (34, .iload_n 1, 1), (35, .ifCond .ne 13, 3), (38, .aload_n 0, 1), (39, .getfield 7, 3), (42, .bipush 8, 2)] = true := by decide +kernel
theorem dX11_size_0 : decode cX11_size 0 = .ok (.iload_n 1, 1) := kq.at kqdX11_size_0 0 rfl
theorem dX11_size_1 : decode cX11_size 1 = .ok (.ifCond .lt 8, 3) := kq.at kqdX11_size_0 1 rfl
theorem dX11_size_4 : decode cX11_size 4 = .ok (.iload_n 1, 1) := kq.at kqdX11_size_0 2 rfl
theorem dX11_size_5 : decode cX11_size 5 = .ok (.iconst 4, 1) := kq.at kqdX11_size_0 3 rfl
theorem dX11_size_6 : decode cX11_size 6 = .ok (.if_icmp .le 9, 3) := kq.at kqdX11_size_0 4 rfl
theorem dX11_size_9 : decode cX11_size 9 = .ok (.aload_n 0, 1) := kq.at kqdX11_size_0 5 rfl
theorem dX11_size_10 : decode cX11_size 10 = .ok (.iconst 1, 1) := kq.at kqdX11_size_0 6 rfl
theorem dX11_size_11 : decode cX11_size 11 = .ok (.invokevirtual 188, 3) := kq.at kqdX11_size_0 7 rfl
theorem dX11_size_14 : decode cX11_size 14 = .ok (.ireturn, 1) := kq.at kqdX11_size_0 8 rfl
theorem dX11_size_15 : decode cX11_size 15 = .ok (.aload_n 0, 1) := kq.at kqdX11_size_0 9 rfl
theorem dX11_size_16 : decode cX11_size 16 = .ok (.invokevirtual 306, 3) := kq.at kqdX11_size_0 10 rfl
theorem dX11_size_19 : decode cX11_size 19 = .ok (.ifCond .ne 10, 3) := kq.at kqdX11_size_0 11 rfl
theorem dX11_size_22 : decode cX11_size 22 = .ok (.aload_n 0, 1) := kq.at kqdX11_size_0 12 rfl
theorem dX11_size_23 : decode cX11_size 23 = .ok (.bipush 6, 2) := kq.at kqdX11_size_0 13 rfl
theorem dX11_size_25 : decode cX11_size 25 = .ok (.invokevirtual 188, 3) := kq.at kqdX11_size_0 14 rfl
theorem dX11_size_28 : decode cX11_size 28 = .ok (.ireturn, 1) := kq.at kqdX11_size_0 15 rfl
theorem dX11_size_29 : decode cX11_size 29 = .ok (.aload_n 0, 1) := kq.at kqdX11_size_0 16 rfl
theorem dX11_size_30 : decode cX11_size 30 = .ok (.invokevirtual 330, 3) := kq.at kqdX11_size_0 17 rfl
theorem dX11_size_33 : decode cX11_size 33 = .ok (.aload_n 0, 1) := kq.at kqdX11_size_0 18 rfl
theorem dX11_size_34 : decode cX11_size 34 = .ok (.iload_n 1, 1) := kq.at kqdX11_size_0 19 rfl
theorem dX11_size_35 : decode cX11_size 35 = .ok (.ifCond .ne 13, 3) := kq.at kqdX11_size_0 20 rfl
theorem dX11_size_38 : decode cX11_size 38 = .ok (.aload_n 0, 1) := kq.at kqdX11_size_0 21 rfl
theorem dX11_size_39 : decode cX11_size 39 = .ok (.getfield 7, 3) := kq.at kqdX11_size_0 22 rfl
theorem dX11_size_42 : decode cX11_size 42 = .ok (.bipush 8, 2) := kq.at kqdX11_size_0 23 rfl
theorem kqdX11_size_44 : kq cX11_size [(44, .iaload, 1), (45, .goto 65, 3), (48, .iload_n 1, 1), (49, .iconst 1, 1), (50, .if_icmp .ne 10, 3), (53, .aload_n 0, 1), (54, .getfield 315, 3), (57, .goto 53, 3), (60, .iload_n 1, 1), (61, .iconst 2, 1), (62, .if_icmp .ne 26, 3), (65, .aload_n 0, 1), (66, .getfield 315, 3), (69, .aload_n 0, 1), (70, .getfield 7, 3), (73, .iconst 5, 1), (74, .iaload, 1), (75, .iadd, 1), (76, .iconst 1, 1), (77, .isub, 1), (78, .aload_n 0, 1), (79, .getfield 7, 3), (82, .iconst 5, 1), (83, .iaload, 1)] = true := by decide +kernel
theorem dX11_size_44 : decode cX11_size 44 = .ok (.iaload, 1) := kq.at kqdX11_size_44 0 rfl
theorem dX11_size_45 : decode cX11_size 45 = .ok (.goto 65, 3) := kq.at kqdX11_size_44 1 rfl
theorem dX11_size_48 : decode cX11_size 48 = .ok (.iload_n 1, 1) := kq.at kqdX11_size_44 2 rfl
theorem dX11_size_49 : decode cX11_size 49 = .ok (.iconst 1, 1) := kq.at kqdX11_size_44 3 rfl
theorem dX11_size_50 : decode cX11_size 50 = .ok (.if_icmp .ne 10, 3) := kq.at kqdX11_size_44 4 rfl
theorem dX11_size_53 : decode cX11_size 53 = .ok (.aload_n 0, 1) := kq.at kqdX11_size_44 5 rfl
theorem dX11_size_54 : decode cX11_size 54 = .ok (.getfield 315, 3) := kq.at kqdX11_size_44 6 rfl
theorem dX11_size_57 : decode cX11_size 57 = .ok (.goto 53, 3) := kq.at kqdX11_size_44 7 rfl
theorem dX11_size_60 : decode cX11_size 60 = .ok (.iload_n 1, 1) := kq.at kqdX11_size_44 8 rfl
theorem dX11_size_61 : decode cX11_size 61 = .ok (.iconst 2, 1) := kq.at kqdX11_size_44 9 rfl
theorem dX11_size_62 : decode cX11_size 62 = .ok (.if_icmp .ne 26, 3) := kq.at kqdX11_size_44 10 rfl
theorem dX11_size_65 : decode cX11_size 65 = .ok (.aload_n 0, 1) := kq.at kqdX11_size_44 11 rfl
theorem dX11_size_66 : decode cX11_size 66 = .ok (.getfield 315, 3) := kq.at kqdX11_size_44 12 rfl
theorem dX11_size_69 : decode cX11_size 69 = .ok (.aload_n 0, 1) := kq.at kqdX11_size_44 13 rfl
theorem dX11_size_70 : decode cX11_size 70 = .ok (.getfield 7, 3) := kq.at kqdX11_size_44 14 rfl
theorem dX11_size_73 : decode cX11_size 73 = .ok (.iconst 5, 1) := kq.at kqdX11_size_44 15 rfl
theorem dX11_size_74 : decode cX11_size 74 = .ok (.iaload, 1) := kq.at kqdX11_size_44 16 rfl
theorem dX11_size_75 : decode cX11_size 75 = .ok (.iadd, 1) := kq.at kqdX11_size_44 17 rfl
theorem dX11_size_76 : decode cX11_size 76 = .ok (.iconst 1, 1) := kq.at kqdX11_size_44 18 rfl
theorem dX11_size_77 : decode cX11_size 77 = .ok (.isub, 1) := kq.at kqdX11_size_44 19 rfl
theorem dX11_size_78 : decode cX11_size 78 = .ok (.aload_n 0, 1) := kq.at kqdX11_size_44 20 rfl
theorem dX11_size_79 : decode cX11_size 79 = .ok (.getfield 7, 3) := kq.at kqdX11_size_44 21 rfl
theorem dX11_size_82 : decode cX11_size 82 = .ok (.iconst 5, 1) := kq.at kqdX11_size_44 22 rfl
theorem dX11_size_83 : decode cX11_size 83 = .ok (.iaload, 1) := kq.at kqdX11_size_44 23 rfl
theorem kqdX11_size_84 : kq cX11_size [(84, .idiv, 1), (85, .goto 25, 3), (88, .iload_n 1, 1), (89, .iconst 3, 1), (90, .if_icmp .ne 13, 3), (93, .aload_n 0, 1), (94, .getfield 7, 3), (97, .bipush 9, 2), (99, .iaload, 1), (100, .goto 10, 3), (103, .aload_n 0, 1), (104, .getfield 7, 3), (107, .bipush 10, 2), (109, .iaload, 1), (110, .invokevirtual 191, 3), (113, .ireturn, 1)] = true := by decide +kernel
theorem dX11_size_84 : decode cX11_size 84 = .ok (.idiv, 1) := kq.at kqdX11_size_84 0 rfl
theorem dX11_size_85 : decode cX11_size 85 = .ok (.goto 25, 3) := kq.at kqdX11_size_84 1 rfl
theorem dX11_size_88 : decode cX11_size 88 = .ok (.iload_n 1, 1) := kq.at kqdX11_size_84 2 rfl
theorem dX11_size_89 : decode cX11_size 89 = .ok (.iconst 3, 1) := kq.at kqdX11_size_84 3 rfl
theorem dX11_size_90 : decode cX11_size 90 = .ok (.if_icmp .ne 13, 3) := kq.at kqdX11_size_84 4 rfl
theorem dX11_size_93 : decode cX11_size 93 = .ok (.aload_n 0, 1) := kq.at kqdX11_size_84 5 rfl
theorem dX11_size_94 : decode cX11_size 94 = .ok (.getfield 7, 3) := kq.at kqdX11_size_84 6 rfl
theorem dX11_size_97 : decode cX11_size 97 = .ok (.bipush 9, 2) := kq.at kqdX11_size_84 7 rfl
theorem dX11_size_99 : decode cX11_size 99 = .ok (.iaload, 1) := kq.at kqdX11_size_84 8 rfl
theorem dX11_size_100 : decode cX11_size 100 = .ok (.goto 10, 3) := kq.at kqdX11_size_84 9 rfl
theorem dX11_size_103 : decode cX11_size 103 = .ok (.aload_n 0, 1) := kq.at kqdX11_size_84 10 rfl
theorem dX11_size_104 : decode cX11_size 104 = .ok (.getfield 7, 3) := kq.at kqdX11_size_84 11 rfl
theorem dX11_size_107 : decode cX11_size 107 = .ok (.bipush 10, 2) := kq.at kqdX11_size_84 12 rfl
theorem dX11_size_109 : decode cX11_size 109 = .ok (.iaload, 1) := kq.at kqdX11_size_84 13 rfl
theorem dX11_size_110 : decode cX11_size 110 = .ok (.invokevirtual 191, 3) := kq.at kqdX11_size_84 14 rfl
theorem dX11_size_113 : decode cX11_size 113 = .ok (.ireturn, 1) := kq.at kqdX11_size_84 15 rfl
theorem kqdX11_cell_0 : kq cX11_cell [(0, .aload_n 0, 1), (1, .invokevirtual 306, 3), (4, .ifCond .eq 18, 3), (7, .iload_n 1, 1), (8, .ifCond .lt 14, 3), (11, .iload_n 1, 1), (12, .aload_n 0, 1), (13, .getfield 7, 3), (16, .bipush 8, 2), (18, .iaload, 1), (19, .if_icmp .lt 12, 3), (22, .aload_n 0, 1), (23, .bipush 6, 2), (25, .invokevirtual 188, 3), (28, .goto 17, 3), (31, .aload_n 0, 1), (32, .aload_n 0, 1), (33, .getfield 7, 3), (36, .sipush 600, 3), (39, .iload_n 1, 1), (40, .iadd, 1), (41, .iaload, 1), (42, .invokevirtual 191, 3), (45, .ireturn, 1)] = true := by decide +kernel
theorem dX11_cell_0 : decode cX11_cell 0 = .ok (.aload_n 0, 1) := kq.at kqdX11_cell_0 0 rfl
theorem dX11_cell_1 : decode cX11_cell 1 = .ok (.invokevirtual 306, 3) := kq.at kqdX11_cell_0 1 rfl
theorem dX11_cell_4 : decode cX11_cell 4 = .ok (.ifCond .eq 18, 3) := kq.at kqdX11_cell_0 2 rfl
theorem dX11_cell_7 : decode cX11_cell 7 = .ok (.iload_n 1, 1) := kq.at kqdX11_cell_0 3 rfl
theorem dX11_cell_8 : decode cX11_cell 8 = .ok (.ifCond .lt 14, 3) := kq.at kqdX11_cell_0 4 rfl
theorem dX11_cell_11 : decode cX11_cell 11 = .ok (.iload_n 1, 1) := kq.at kqdX11_cell_0 5 rfl
theorem dX11_cell_12 : decode cX11_cell 12 = .ok (.aload_n 0, 1) := kq.at kqdX11_cell_0 6 rfl
theorem dX11_cell_13 : decode cX11_cell 13 = .ok (.getfield 7, 3) := kq.at kqdX11_cell_0 7 rfl
theorem dX11_cell_16 : decode cX11_cell 16 = .ok (.bipush 8, 2) := kq.at kqdX11_cell_0 8 rfl
theorem dX11_cell_18 : decode cX11_cell 18 = .ok (.iaload, 1) := kq.at kqdX11_cell_0 9 rfl
theorem dX11_cell_19 : decode cX11_cell 19 = .ok (.if_icmp .lt 12, 3) := kq.at kqdX11_cell_0 10 rfl
theorem dX11_cell_22 : decode cX11_cell 22 = .ok (.aload_n 0, 1) := kq.at kqdX11_cell_0 11 rfl
theorem dX11_cell_23 : decode cX11_cell 23 = .ok (.bipush 6, 2) := kq.at kqdX11_cell_0 12 rfl
theorem dX11_cell_25 : decode cX11_cell 25 = .ok (.invokevirtual 188, 3) := kq.at kqdX11_cell_0 13 rfl
theorem dX11_cell_28 : decode cX11_cell 28 = .ok (.goto 17, 3) := kq.at kqdX11_cell_0 14 rfl
theorem dX11_cell_31 : decode cX11_cell 31 = .ok (.aload_n 0, 1) := kq.at kqdX11_cell_0 15 rfl
theorem dX11_cell_32 : decode cX11_cell 32 = .ok (.aload_n 0, 1) := kq.at kqdX11_cell_0 16 rfl
theorem dX11_cell_33 : decode cX11_cell 33 = .ok (.getfield 7, 3) := kq.at kqdX11_cell_0 17 rfl
theorem dX11_cell_36 : decode cX11_cell 36 = .ok (.sipush 600, 3) := kq.at kqdX11_cell_0 18 rfl
theorem dX11_cell_39 : decode cX11_cell 39 = .ok (.iload_n 1, 1) := kq.at kqdX11_cell_0 19 rfl
theorem dX11_cell_40 : decode cX11_cell 40 = .ok (.iadd, 1) := kq.at kqdX11_cell_0 20 rfl
theorem dX11_cell_41 : decode cX11_cell 41 = .ok (.iaload, 1) := kq.at kqdX11_cell_0 21 rfl
theorem dX11_cell_42 : decode cX11_cell 42 = .ok (.invokevirtual 191, 3) := kq.at kqdX11_cell_0 22 rfl
theorem dX11_cell_45 : decode cX11_cell 45 = .ok (.ireturn, 1) := kq.at kqdX11_cell_0 23 rfl
theorem kqdX11_isLine_0 : kq cX11_isLine [(0, .aload_n 0, 1), (1, .invokevirtual 306, 3), (4, .ifCond .ne 5, 3), (7, .iconst 0, 1), (8, .ireturn, 1), (9, .aload_n 0, 1), (10, .invokevirtual 330, 3), (13, .iload_n 1, 1), (14, .ifCond .lt 15, 3), (17, .iload_n 1, 1), (18, .aload_n 0, 1), (19, .getfield 315, 3), (22, .if_icmp .ge 7, 3), (25, .iconst 1, 1), (26, .goto 4, 3), (29, .iconst 0, 1), (30, .ireturn, 1)] = true := by decide +kernel
theorem dX11_isLine_0 : decode cX11_isLine 0 = .ok (.aload_n 0, 1) := kq.at kqdX11_isLine_0 0 rfl
theorem dX11_isLine_1 : decode cX11_isLine 1 = .ok (.invokevirtual 306, 3) := kq.at kqdX11_isLine_0 1 rfl
theorem dX11_isLine_4 : decode cX11_isLine 4 = .ok (.ifCond .ne 5, 3) := kq.at kqdX11_isLine_0 2 rfl
theorem dX11_isLine_7 : decode cX11_isLine 7 = .ok (.iconst 0, 1) := kq.at kqdX11_isLine_0 3 rfl
theorem dX11_isLine_8 : decode cX11_isLine 8 = .ok (.ireturn, 1) := kq.at kqdX11_isLine_0 4 rfl
theorem dX11_isLine_9 : decode cX11_isLine 9 = .ok (.aload_n 0, 1) := kq.at kqdX11_isLine_0 5 rfl
theorem dX11_isLine_10 : decode cX11_isLine 10 = .ok (.invokevirtual 330, 3) := kq.at kqdX11_isLine_0 6 rfl
theorem dX11_isLine_13 : decode cX11_isLine 13 = .ok (.iload_n 1, 1) := kq.at kqdX11_isLine_0 7 rfl
theorem dX11_isLine_14 : decode cX11_isLine 14 = .ok (.ifCond .lt 15, 3) := kq.at kqdX11_isLine_0 8 rfl
theorem dX11_isLine_17 : decode cX11_isLine 17 = .ok (.iload_n 1, 1) := kq.at kqdX11_isLine_0 9 rfl
theorem dX11_isLine_18 : decode cX11_isLine 18 = .ok (.aload_n 0, 1) := kq.at kqdX11_isLine_0 10 rfl
theorem dX11_isLine_19 : decode cX11_isLine 19 = .ok (.getfield 315, 3) := kq.at kqdX11_isLine_0 11 rfl
theorem dX11_isLine_22 : decode cX11_isLine 22 = .ok (.if_icmp .ge 7, 3) := kq.at kqdX11_isLine_0 12 rfl
theorem dX11_isLine_25 : decode cX11_isLine 25 = .ok (.iconst 1, 1) := kq.at kqdX11_isLine_0 13 rfl
theorem dX11_isLine_26 : decode cX11_isLine 26 = .ok (.goto 4, 3) := kq.at kqdX11_isLine_0 14 rfl
theorem dX11_isLine_29 : decode cX11_isLine 29 = .ok (.iconst 0, 1) := kq.at kqdX11_isLine_0 15 rfl
theorem dX11_isLine_30 : decode cX11_isLine 30 = .ok (.ireturn, 1) := kq.at kqdX11_isLine_0 16 rfl
theorem kqdX11_line_0 : kq cX11_line [(0, .aload_n 0, 1), (1, .iload_n 1, 1), (2, .invokevirtual 333, 3), (5, .ifCond .eq 16, 3), (8, .aload_n 0, 1), (9, .aload_n 0, 1), (10, .getfield 47, 3), (13, .iload_n 1, 1), (14, .iaload, 1), (15, .invokevirtual 191, 3), (18, .goto 9, 3), (21, .aload_n 0, 1), (22, .bipush 6, 2), (24, .invokevirtual 188, 3), (27, .ireturn, 1)] = true := by decide +kernel
theorem dX11_line_0 : decode cX11_line 0 = .ok (.aload_n 0, 1) := kq.at kqdX11_line_0 0 rfl
theorem dX11_line_1 : decode cX11_line 1 = .ok (.iload_n 1, 1) := kq.at kqdX11_line_0 1 rfl
theorem dX11_line_2 : decode cX11_line 2 = .ok (.invokevirtual 333, 3) := kq.at kqdX11_line_0 2 rfl
theorem dX11_line_5 : decode cX11_line 5 = .ok (.ifCond .eq 16, 3) := kq.at kqdX11_line_0 3 rfl
theorem dX11_line_8 : decode cX11_line 8 = .ok (.aload_n 0, 1) := kq.at kqdX11_line_0 4 rfl
theorem dX11_line_9 : decode cX11_line 9 = .ok (.aload_n 0, 1) := kq.at kqdX11_line_0 5 rfl
theorem dX11_line_10 : decode cX11_line 10 = .ok (.getfield 47, 3) := kq.at kqdX11_line_0 6 rfl
theorem dX11_line_13 : decode cX11_line 13 = .ok (.iload_n 1, 1) := kq.at kqdX11_line_0 7 rfl
theorem dX11_line_14 : decode cX11_line 14 = .ok (.iaload, 1) := kq.at kqdX11_line_0 8 rfl
theorem dX11_line_15 : decode cX11_line 15 = .ok (.invokevirtual 191, 3) := kq.at kqdX11_line_0 9 rfl
theorem dX11_line_18 : decode cX11_line 18 = .ok (.goto 9, 3) := kq.at kqdX11_line_0 10 rfl
theorem dX11_line_21 : decode cX11_line 21 = .ok (.aload_n 0, 1) := kq.at kqdX11_line_0 11 rfl
theorem dX11_line_22 : decode cX11_line 22 = .ok (.bipush 6, 2) := kq.at kqdX11_line_0 12 rfl
theorem dX11_line_24 : decode cX11_line 24 = .ok (.invokevirtual 188, 3) := kq.at kqdX11_line_0 13 rfl
theorem dX11_line_27 : decode cX11_line 27 = .ok (.ireturn, 1) := kq.at kqdX11_line_0 14 rfl
theorem kqdX11_lineAt_0 : kq cX11_lineAt [(0, .aload_n 0, 1), (1, .iload_n 1, 1), (2, .invokevirtual 333, 3), (5, .ifCond .eq 37, 3), (8, .iload_n 2, 1), (9, .ifCond .lt 33, 3), (12, .iload_n 2, 1), (13, .aload_n 0, 1), (14, .getfield 47, 3), (17, .iload_n 1, 1), (18, .iaload, 1), (19, .if_icmp .ge 23, 3), (22, .aload_n 0, 1), (23, .aload_n 0, 1), (24, .getfield 41, 3), (27, .aload_n 0, 1), (28, .getfield 44, 3), (31, .iload_n 1, 1), (32, .iaload, 1), (33, .iload_n 2, 1), (34, .iadd, 1), (35, .iaload, 1), (36, .invokevirtual 191, 3), (39, .goto 9, 3)] = true := by decide +kernel
theorem dX11_lineAt_0 : decode cX11_lineAt 0 = .ok (.aload_n 0, 1) := kq.at kqdX11_lineAt_0 0 rfl
theorem dX11_lineAt_1 : decode cX11_lineAt 1 = .ok (.iload_n 1, 1) := kq.at kqdX11_lineAt_0 1 rfl
theorem dX11_lineAt_2 : decode cX11_lineAt 2 = .ok (.invokevirtual 333, 3) := kq.at kqdX11_lineAt_0 2 rfl
theorem dX11_lineAt_5 : decode cX11_lineAt 5 = .ok (.ifCond .eq 37, 3) := kq.at kqdX11_lineAt_0 3 rfl
theorem dX11_lineAt_8 : decode cX11_lineAt 8 = .ok (.iload_n 2, 1) := kq.at kqdX11_lineAt_0 4 rfl
theorem dX11_lineAt_9 : decode cX11_lineAt 9 = .ok (.ifCond .lt 33, 3) := kq.at kqdX11_lineAt_0 5 rfl
theorem dX11_lineAt_12 : decode cX11_lineAt 12 = .ok (.iload_n 2, 1) := kq.at kqdX11_lineAt_0 6 rfl
theorem dX11_lineAt_13 : decode cX11_lineAt 13 = .ok (.aload_n 0, 1) := kq.at kqdX11_lineAt_0 7 rfl
theorem dX11_lineAt_14 : decode cX11_lineAt 14 = .ok (.getfield 47, 3) := kq.at kqdX11_lineAt_0 8 rfl
theorem dX11_lineAt_17 : decode cX11_lineAt 17 = .ok (.iload_n 1, 1) := kq.at kqdX11_lineAt_0 9 rfl
theorem dX11_lineAt_18 : decode cX11_lineAt 18 = .ok (.iaload, 1) := kq.at kqdX11_lineAt_0 10 rfl
theorem dX11_lineAt_19 : decode cX11_lineAt 19 = .ok (.if_icmp .ge 23, 3) := kq.at kqdX11_lineAt_0 11 rfl
theorem dX11_lineAt_22 : decode cX11_lineAt 22 = .ok (.aload_n 0, 1) := kq.at kqdX11_lineAt_0 12 rfl
theorem dX11_lineAt_23 : decode cX11_lineAt 23 = .ok (.aload_n 0, 1) := kq.at kqdX11_lineAt_0 13 rfl
theorem dX11_lineAt_24 : decode cX11_lineAt 24 = .ok (.getfield 41, 3) := kq.at kqdX11_lineAt_0 14 rfl
theorem dX11_lineAt_27 : decode cX11_lineAt 27 = .ok (.aload_n 0, 1) := kq.at kqdX11_lineAt_0 15 rfl
theorem dX11_lineAt_28 : decode cX11_lineAt 28 = .ok (.getfield 44, 3) := kq.at kqdX11_lineAt_0 16 rfl
theorem dX11_lineAt_31 : decode cX11_lineAt 31 = .ok (.iload_n 1, 1) := kq.at kqdX11_lineAt_0 17 rfl
theorem dX11_lineAt_32 : decode cX11_lineAt 32 = .ok (.iaload, 1) := kq.at kqdX11_lineAt_0 18 rfl
theorem dX11_lineAt_33 : decode cX11_lineAt 33 = .ok (.iload_n 2, 1) := kq.at kqdX11_lineAt_0 19 rfl
theorem dX11_lineAt_34 : decode cX11_lineAt 34 = .ok (.iadd, 1) := kq.at kqdX11_lineAt_0 20 rfl
theorem dX11_lineAt_35 : decode cX11_lineAt 35 = .ok (.iaload, 1) := kq.at kqdX11_lineAt_0 21 rfl
theorem dX11_lineAt_36 : decode cX11_lineAt 36 = .ok (.invokevirtual 191, 3) := kq.at kqdX11_lineAt_0 22 rfl
theorem dX11_lineAt_39 : decode cX11_lineAt 39 = .ok (.goto 9, 3) := kq.at kqdX11_lineAt_0 23 rfl
theorem kqdX11_lineAt_42 : kq cX11_lineAt [(42, .aload_n 0, 1), (43, .bipush 6, 2), (45, .invokevirtual 188, 3), (48, .ireturn, 1)] = true := by decide +kernel
theorem dX11_lineAt_42 : decode cX11_lineAt 42 = .ok (.aload_n 0, 1) := kq.at kqdX11_lineAt_42 0 rfl
theorem dX11_lineAt_43 : decode cX11_lineAt 43 = .ok (.bipush 6, 2) := kq.at kqdX11_lineAt_42 1 rfl
theorem dX11_lineAt_45 : decode cX11_lineAt 45 = .ok (.invokevirtual 188, 3) := kq.at kqdX11_lineAt_42 2 rfl
theorem dX11_lineAt_48 : decode cX11_lineAt 48 = .ok (.ireturn, 1) := kq.at kqdX11_lineAt_42 3 rfl
theorem kqdX11_onPage_0 : kq cX11_onPage [(0, .iload_n 3, 1), (1, .ifCond .lt 27, 3), (4, .iload_n 3, 1), (5, .aload_n 0, 1), (6, .getfield 7, 3), (9, .iconst 4, 1), (10, .iaload, 1), (11, .if_icmp .ge 17, 3), (14, .iload_n 2, 1), (15, .ifCond .lt 13, 3), (18, .iload_n 2, 1), (19, .aload_n 0, 1), (20, .getfield 7, 3), (23, .iconst 5, 1), (24, .iaload, 1), (25, .if_icmp .lt 9, 3), (28, .aload_n 0, 1), (29, .iconst 1, 1), (30, .invokevirtual 188, 3), (33, .ireturn, 1), (34, .iload_n 1, 1), (35, .ifCond .lt 10, 3), (38, .iload_n 1, 1), (39, .sipush 2000, 3)] = true := by decide +kernel
theorem dX11_onPage_0 : decode cX11_onPage 0 = .ok (.iload_n 3, 1) := kq.at kqdX11_onPage_0 0 rfl
theorem dX11_onPage_1 : decode cX11_onPage 1 = .ok (.ifCond .lt 27, 3) := kq.at kqdX11_onPage_0 1 rfl
theorem dX11_onPage_4 : decode cX11_onPage 4 = .ok (.iload_n 3, 1) := kq.at kqdX11_onPage_0 2 rfl
theorem dX11_onPage_5 : decode cX11_onPage 5 = .ok (.aload_n 0, 1) := kq.at kqdX11_onPage_0 3 rfl
theorem dX11_onPage_6 : decode cX11_onPage 6 = .ok (.getfield 7, 3) := kq.at kqdX11_onPage_0 4 rfl
theorem dX11_onPage_9 : decode cX11_onPage 9 = .ok (.iconst 4, 1) := kq.at kqdX11_onPage_0 5 rfl
theorem dX11_onPage_10 : decode cX11_onPage 10 = .ok (.iaload, 1) := kq.at kqdX11_onPage_0 6 rfl
theorem dX11_onPage_11 : decode cX11_onPage 11 = .ok (.if_icmp .ge 17, 3) := kq.at kqdX11_onPage_0 7 rfl
theorem dX11_onPage_14 : decode cX11_onPage 14 = .ok (.iload_n 2, 1) := kq.at kqdX11_onPage_0 8 rfl
theorem dX11_onPage_15 : decode cX11_onPage 15 = .ok (.ifCond .lt 13, 3) := kq.at kqdX11_onPage_0 9 rfl
theorem dX11_onPage_18 : decode cX11_onPage 18 = .ok (.iload_n 2, 1) := kq.at kqdX11_onPage_0 10 rfl
theorem dX11_onPage_19 : decode cX11_onPage 19 = .ok (.aload_n 0, 1) := kq.at kqdX11_onPage_0 11 rfl
theorem dX11_onPage_20 : decode cX11_onPage 20 = .ok (.getfield 7, 3) := kq.at kqdX11_onPage_0 12 rfl
theorem dX11_onPage_23 : decode cX11_onPage 23 = .ok (.iconst 5, 1) := kq.at kqdX11_onPage_0 13 rfl
theorem dX11_onPage_24 : decode cX11_onPage 24 = .ok (.iaload, 1) := kq.at kqdX11_onPage_0 14 rfl
theorem dX11_onPage_25 : decode cX11_onPage 25 = .ok (.if_icmp .lt 9, 3) := kq.at kqdX11_onPage_0 15 rfl
theorem dX11_onPage_28 : decode cX11_onPage 28 = .ok (.aload_n 0, 1) := kq.at kqdX11_onPage_0 16 rfl
theorem dX11_onPage_29 : decode cX11_onPage 29 = .ok (.iconst 1, 1) := kq.at kqdX11_onPage_0 17 rfl
theorem dX11_onPage_30 : decode cX11_onPage 30 = .ok (.invokevirtual 188, 3) := kq.at kqdX11_onPage_0 18 rfl
theorem dX11_onPage_33 : decode cX11_onPage 33 = .ok (.ireturn, 1) := kq.at kqdX11_onPage_0 19 rfl
theorem dX11_onPage_34 : decode cX11_onPage 34 = .ok (.iload_n 1, 1) := kq.at kqdX11_onPage_0 20 rfl
theorem dX11_onPage_35 : decode cX11_onPage 35 = .ok (.ifCond .lt 10, 3) := kq.at kqdX11_onPage_0 21 rfl
theorem dX11_onPage_38 : decode cX11_onPage 38 = .ok (.iload_n 1, 1) := kq.at kqdX11_onPage_0 22 rfl
theorem dX11_onPage_39 : decode cX11_onPage 39 = .ok (.sipush 2000, 3) := kq.at kqdX11_onPage_0 23 rfl
theorem kqdX11_onPage_42 : kq cX11_onPage [(42, .if_icmp .le 7, 3), (45, .iconst (-1), 1), (46, .goto 13, 3), (49, .iload_n 1, 1), (50, .aload_n 0, 1), (51, .getfield 7, 3), (54, .iconst 5, 1), (55, .iaload, 1), (56, .imul, 1), (57, .iload_n 2, 1), (58, .iadd, 1), (59, .istore 4, 2), (61, .aload_n 0, 1), (62, .iload 4, 2), (64, .invokevirtual 333, 3), (67, .ifCond .ne 10, 3), (70, .aload_n 0, 1), (71, .bipush 6, 2), (73, .invokevirtual 188, 3), (76, .ireturn, 1), (77, .aload_n 0, 1), (78, .iload_n 3, 1), (79, .aload_n 0, 1), (80, .getfield 47, 3)] = true := by decide +kernel
theorem dX11_onPage_42 : decode cX11_onPage 42 = .ok (.if_icmp .le 7, 3) := kq.at kqdX11_onPage_42 0 rfl
theorem dX11_onPage_45 : decode cX11_onPage 45 = .ok (.iconst (-1), 1) := kq.at kqdX11_onPage_42 1 rfl
theorem dX11_onPage_46 : decode cX11_onPage 46 = .ok (.goto 13, 3) := kq.at kqdX11_onPage_42 2 rfl
theorem dX11_onPage_49 : decode cX11_onPage 49 = .ok (.iload_n 1, 1) := kq.at kqdX11_onPage_42 3 rfl
theorem dX11_onPage_50 : decode cX11_onPage 50 = .ok (.aload_n 0, 1) := kq.at kqdX11_onPage_42 4 rfl
theorem dX11_onPage_51 : decode cX11_onPage 51 = .ok (.getfield 7, 3) := kq.at kqdX11_onPage_42 5 rfl
theorem dX11_onPage_54 : decode cX11_onPage 54 = .ok (.iconst 5, 1) := kq.at kqdX11_onPage_42 6 rfl
theorem dX11_onPage_55 : decode cX11_onPage 55 = .ok (.iaload, 1) := kq.at kqdX11_onPage_42 7 rfl
theorem dX11_onPage_56 : decode cX11_onPage 56 = .ok (.imul, 1) := kq.at kqdX11_onPage_42 8 rfl
theorem dX11_onPage_57 : decode cX11_onPage 57 = .ok (.iload_n 2, 1) := kq.at kqdX11_onPage_42 9 rfl
theorem dX11_onPage_58 : decode cX11_onPage 58 = .ok (.iadd, 1) := kq.at kqdX11_onPage_42 10 rfl
theorem dX11_onPage_59 : decode cX11_onPage 59 = .ok (.istore 4, 2) := kq.at kqdX11_onPage_42 11 rfl
theorem dX11_onPage_61 : decode cX11_onPage 61 = .ok (.aload_n 0, 1) := kq.at kqdX11_onPage_42 12 rfl
theorem dX11_onPage_62 : decode cX11_onPage 62 = .ok (.iload 4, 2) := kq.at kqdX11_onPage_42 13 rfl
theorem dX11_onPage_64 : decode cX11_onPage 64 = .ok (.invokevirtual 333, 3) := kq.at kqdX11_onPage_42 14 rfl
theorem dX11_onPage_67 : decode cX11_onPage 67 = .ok (.ifCond .ne 10, 3) := kq.at kqdX11_onPage_42 15 rfl
theorem dX11_onPage_70 : decode cX11_onPage 70 = .ok (.aload_n 0, 1) := kq.at kqdX11_onPage_42 16 rfl
theorem dX11_onPage_71 : decode cX11_onPage 71 = .ok (.bipush 6, 2) := kq.at kqdX11_onPage_42 17 rfl
theorem dX11_onPage_73 : decode cX11_onPage 73 = .ok (.invokevirtual 188, 3) := kq.at kqdX11_onPage_42 18 rfl
theorem dX11_onPage_76 : decode cX11_onPage 76 = .ok (.ireturn, 1) := kq.at kqdX11_onPage_42 19 rfl
theorem dX11_onPage_77 : decode cX11_onPage 77 = .ok (.aload_n 0, 1) := kq.at kqdX11_onPage_42 20 rfl
theorem dX11_onPage_78 : decode cX11_onPage 78 = .ok (.iload_n 3, 1) := kq.at kqdX11_onPage_42 21 rfl
theorem dX11_onPage_79 : decode cX11_onPage 79 = .ok (.aload_n 0, 1) := kq.at kqdX11_onPage_42 22 rfl
theorem dX11_onPage_80 : decode cX11_onPage 80 = .ok (.getfield 47, 3) := kq.at kqdX11_onPage_42 23 rfl
theorem kqdX11_onPage_83 : kq cX11_onPage [(83, .iload 4, 2), (85, .iaload, 1), (86, .if_icmp .ge 20, 3), (89, .aload_n 0, 1), (90, .getfield 41, 3), (93, .aload_n 0, 1), (94, .getfield 44, 3), (97, .iload 4, 2), (99, .iaload, 1), (100, .iload_n 3, 1), (101, .iadd, 1), (102, .iaload, 1), (103, .goto 4, 3), (106, .iconst 0, 1), (107, .invokevirtual 191, 3), (110, .ireturn, 1)] = true := by decide +kernel
theorem dX11_onPage_83 : decode cX11_onPage 83 = .ok (.iload 4, 2) := kq.at kqdX11_onPage_83 0 rfl
theorem dX11_onPage_85 : decode cX11_onPage 85 = .ok (.iaload, 1) := kq.at kqdX11_onPage_83 1 rfl
theorem dX11_onPage_86 : decode cX11_onPage 86 = .ok (.if_icmp .ge 20, 3) := kq.at kqdX11_onPage_83 2 rfl
theorem dX11_onPage_89 : decode cX11_onPage 89 = .ok (.aload_n 0, 1) := kq.at kqdX11_onPage_83 3 rfl
theorem dX11_onPage_90 : decode cX11_onPage 90 = .ok (.getfield 41, 3) := kq.at kqdX11_onPage_83 4 rfl
theorem dX11_onPage_93 : decode cX11_onPage 93 = .ok (.aload_n 0, 1) := kq.at kqdX11_onPage_83 5 rfl
theorem dX11_onPage_94 : decode cX11_onPage 94 = .ok (.getfield 44, 3) := kq.at kqdX11_onPage_83 6 rfl
theorem dX11_onPage_97 : decode cX11_onPage 97 = .ok (.iload 4, 2) := kq.at kqdX11_onPage_83 7 rfl
theorem dX11_onPage_99 : decode cX11_onPage 99 = .ok (.iaload, 1) := kq.at kqdX11_onPage_83 8 rfl
theorem dX11_onPage_100 : decode cX11_onPage 100 = .ok (.iload_n 3, 1) := kq.at kqdX11_onPage_83 9 rfl
theorem dX11_onPage_101 : decode cX11_onPage 101 = .ok (.iadd, 1) := kq.at kqdX11_onPage_83 10 rfl
theorem dX11_onPage_102 : decode cX11_onPage 102 = .ok (.iaload, 1) := kq.at kqdX11_onPage_83 11 rfl
theorem dX11_onPage_103 : decode cX11_onPage 103 = .ok (.goto 4, 3) := kq.at kqdX11_onPage_83 12 rfl
theorem dX11_onPage_106 : decode cX11_onPage 106 = .ok (.iconst 0, 1) := kq.at kqdX11_onPage_83 13 rfl
theorem dX11_onPage_107 : decode cX11_onPage 107 = .ok (.invokevirtual 191, 3) := kq.at kqdX11_onPage_83 14 rfl
theorem dX11_onPage_110 : decode cX11_onPage 110 = .ok (.ireturn, 1) := kq.at kqdX11_onPage_83 15 rfl
theorem kqdX11_hyphens_0 : kq cX11_hyphens [(0, .aload_n 0, 1), (1, .invokevirtual 306, 3), (4, .ifCond .ne 10, 3), (7, .aload_n 0, 1), (8, .bipush 6, 2), (10, .invokevirtual 188, 3), (13, .ireturn, 1), (14, .aload_n 0, 1), (15, .invokevirtual 330, 3), (18, .aload_n 0, 1), (19, .aload_n 0, 1), (20, .getfield 318, 3), (23, .invokevirtual 191, 3), (26, .ireturn, 1)] = true := by decide +kernel
theorem dX11_hyphens_0 : decode cX11_hyphens 0 = .ok (.aload_n 0, 1) := kq.at kqdX11_hyphens_0 0 rfl
theorem dX11_hyphens_1 : decode cX11_hyphens 1 = .ok (.invokevirtual 306, 3) := kq.at kqdX11_hyphens_0 1 rfl
theorem dX11_hyphens_4 : decode cX11_hyphens 4 = .ok (.ifCond .ne 10, 3) := kq.at kqdX11_hyphens_0 2 rfl
theorem dX11_hyphens_7 : decode cX11_hyphens 7 = .ok (.aload_n 0, 1) := kq.at kqdX11_hyphens_0 3 rfl
theorem dX11_hyphens_8 : decode cX11_hyphens 8 = .ok (.bipush 6, 2) := kq.at kqdX11_hyphens_0 4 rfl
theorem dX11_hyphens_10 : decode cX11_hyphens 10 = .ok (.invokevirtual 188, 3) := kq.at kqdX11_hyphens_0 5 rfl
theorem dX11_hyphens_13 : decode cX11_hyphens 13 = .ok (.ireturn, 1) := kq.at kqdX11_hyphens_0 6 rfl
theorem dX11_hyphens_14 : decode cX11_hyphens 14 = .ok (.aload_n 0, 1) := kq.at kqdX11_hyphens_0 7 rfl
theorem dX11_hyphens_15 : decode cX11_hyphens 15 = .ok (.invokevirtual 330, 3) := kq.at kqdX11_hyphens_0 8 rfl
theorem dX11_hyphens_18 : decode cX11_hyphens 18 = .ok (.aload_n 0, 1) := kq.at kqdX11_hyphens_0 9 rfl
theorem dX11_hyphens_19 : decode cX11_hyphens 19 = .ok (.aload_n 0, 1) := kq.at kqdX11_hyphens_0 10 rfl
theorem dX11_hyphens_20 : decode cX11_hyphens 20 = .ok (.getfield 318, 3) := kq.at kqdX11_hyphens_0 11 rfl
theorem dX11_hyphens_23 : decode cX11_hyphens 23 = .ok (.invokevirtual 191, 3) := kq.at kqdX11_hyphens_0 12 rfl
theorem dX11_hyphens_26 : decode cX11_hyphens 26 = .ok (.ireturn, 1) := kq.at kqdX11_hyphens_0 13 rfl
theorem kqdX11_used_0 : kq cX11_used [(0, .aload_n 0, 1), (1, .iload_n 1, 1), (2, .invokevirtual 297, 3), (5, .ifCond .ne 11, 3), (8, .aload_n 0, 1), (9, .iconst 1, 1), (10, .invokevirtual 188, 3), (13, .goto 33, 3), (16, .aload_n 0, 1), (17, .invokevirtual 306, 3), (20, .ifCond .eq 20, 3), (23, .aload_n 0, 1), (24, .aload_n 0, 1), (25, .getfield 7, 3), (28, .sipush 2010, 3), (31, .iload_n 1, 1), (32, .iadd, 1), (33, .iaload, 1), (34, .invokevirtual 191, 3), (37, .goto 9, 3), (40, .aload_n 0, 1), (41, .bipush 6, 2), (43, .invokevirtual 188, 3), (46, .ireturn, 1)] = true := by decide +kernel
theorem dX11_used_0 : decode cX11_used 0 = .ok (.aload_n 0, 1) := kq.at kqdX11_used_0 0 rfl
theorem dX11_used_1 : decode cX11_used 1 = .ok (.iload_n 1, 1) := kq.at kqdX11_used_0 1 rfl
theorem dX11_used_2 : decode cX11_used 2 = .ok (.invokevirtual 297, 3) := kq.at kqdX11_used_0 2 rfl
theorem dX11_used_5 : decode cX11_used 5 = .ok (.ifCond .ne 11, 3) := kq.at kqdX11_used_0 3 rfl
theorem dX11_used_8 : decode cX11_used 8 = .ok (.aload_n 0, 1) := kq.at kqdX11_used_0 4 rfl
theorem dX11_used_9 : decode cX11_used 9 = .ok (.iconst 1, 1) := kq.at kqdX11_used_0 5 rfl
theorem dX11_used_10 : decode cX11_used 10 = .ok (.invokevirtual 188, 3) := kq.at kqdX11_used_0 6 rfl
theorem dX11_used_13 : decode cX11_used 13 = .ok (.goto 33, 3) := kq.at kqdX11_used_0 7 rfl
theorem dX11_used_16 : decode cX11_used 16 = .ok (.aload_n 0, 1) := kq.at kqdX11_used_0 8 rfl
theorem dX11_used_17 : decode cX11_used 17 = .ok (.invokevirtual 306, 3) := kq.at kqdX11_used_0 9 rfl
theorem dX11_used_20 : decode cX11_used 20 = .ok (.ifCond .eq 20, 3) := kq.at kqdX11_used_0 10 rfl
theorem dX11_used_23 : decode cX11_used 23 = .ok (.aload_n 0, 1) := kq.at kqdX11_used_0 11 rfl
theorem dX11_used_24 : decode cX11_used 24 = .ok (.aload_n 0, 1) := kq.at kqdX11_used_0 12 rfl
theorem dX11_used_25 : decode cX11_used 25 = .ok (.getfield 7, 3) := kq.at kqdX11_used_0 13 rfl
theorem dX11_used_28 : decode cX11_used 28 = .ok (.sipush 2010, 3) := kq.at kqdX11_used_0 14 rfl
theorem dX11_used_31 : decode cX11_used 31 = .ok (.iload_n 1, 1) := kq.at kqdX11_used_0 15 rfl
theorem dX11_used_32 : decode cX11_used 32 = .ok (.iadd, 1) := kq.at kqdX11_used_0 16 rfl
theorem dX11_used_33 : decode cX11_used 33 = .ok (.iaload, 1) := kq.at kqdX11_used_0 17 rfl
theorem dX11_used_34 : decode cX11_used 34 = .ok (.invokevirtual 191, 3) := kq.at kqdX11_used_0 18 rfl
theorem dX11_used_37 : decode cX11_used 37 = .ok (.goto 9, 3) := kq.at kqdX11_used_0 19 rfl
theorem dX11_used_40 : decode cX11_used 40 = .ok (.aload_n 0, 1) := kq.at kqdX11_used_0 20 rfl
theorem dX11_used_41 : decode cX11_used 41 = .ok (.bipush 6, 2) := kq.at kqdX11_used_0 21 rfl
theorem dX11_used_43 : decode cX11_used 43 = .ok (.invokevirtual 188, 3) := kq.at kqdX11_used_0 22 rfl
theorem dX11_used_46 : decode cX11_used 46 = .ok (.ireturn, 1) := kq.at kqdX11_used_0 23 rfl
theorem kqdX11_useless_0 : kq cX11_useless [(0, .aload_n 0, 1), (1, .invokevirtual 306, 3), (4, .ifCond .ne 10, 3), (7, .aload_n 0, 1), (8, .bipush 6, 2), (10, .invokevirtual 188, 3), (13, .ireturn, 1), (14, .iconst 0, 1), (15, .istore_n 1, 1), (16, .iconst 0, 1), (17, .istore_n 2, 1), (18, .iload_n 2, 1), (19, .aload_n 0, 1), (20, .getfield 7, 3), (23, .iconst 0, 1), (24, .iaload, 1), (25, .if_icmp .ge 46, 3), (28, .iload_n 1, 1), (29, .aload_n 0, 1), (30, .getfield 7, 3), (33, .bipush 6, 2), (35, .iaload, 1), (36, .iload_n 2, 1), (37, .invokestatic 249, 3)] = true := by decide +kernel
theorem dX11_useless_0 : decode cX11_useless 0 = .ok (.aload_n 0, 1) := kq.at kqdX11_useless_0 0 rfl
theorem dX11_useless_1 : decode cX11_useless 1 = .ok (.invokevirtual 306, 3) := kq.at kqdX11_useless_0 1 rfl
theorem dX11_useless_4 : decode cX11_useless 4 = .ok (.ifCond .ne 10, 3) := kq.at kqdX11_useless_0 2 rfl
theorem dX11_useless_7 : decode cX11_useless 7 = .ok (.aload_n 0, 1) := kq.at kqdX11_useless_0 3 rfl
theorem dX11_useless_8 : decode cX11_useless 8 = .ok (.bipush 6, 2) := kq.at kqdX11_useless_0 4 rfl
theorem dX11_useless_10 : decode cX11_useless 10 = .ok (.invokevirtual 188, 3) := kq.at kqdX11_useless_0 5 rfl
theorem dX11_useless_13 : decode cX11_useless 13 = .ok (.ireturn, 1) := kq.at kqdX11_useless_0 6 rfl
theorem dX11_useless_14 : decode cX11_useless 14 = .ok (.iconst 0, 1) := kq.at kqdX11_useless_0 7 rfl
theorem dX11_useless_15 : decode cX11_useless 15 = .ok (.istore_n 1, 1) := kq.at kqdX11_useless_0 8 rfl
theorem dX11_useless_16 : decode cX11_useless 16 = .ok (.iconst 0, 1) := kq.at kqdX11_useless_0 9 rfl
theorem dX11_useless_17 : decode cX11_useless 17 = .ok (.istore_n 2, 1) := kq.at kqdX11_useless_0 10 rfl
theorem dX11_useless_18 : decode cX11_useless 18 = .ok (.iload_n 2, 1) := kq.at kqdX11_useless_0 11 rfl
theorem dX11_useless_19 : decode cX11_useless 19 = .ok (.aload_n 0, 1) := kq.at kqdX11_useless_0 12 rfl
theorem dX11_useless_20 : decode cX11_useless 20 = .ok (.getfield 7, 3) := kq.at kqdX11_useless_0 13 rfl
theorem dX11_useless_23 : decode cX11_useless 23 = .ok (.iconst 0, 1) := kq.at kqdX11_useless_0 14 rfl
theorem dX11_useless_24 : decode cX11_useless 24 = .ok (.iaload, 1) := kq.at kqdX11_useless_0 15 rfl
theorem dX11_useless_25 : decode cX11_useless 25 = .ok (.if_icmp .ge 46, 3) := kq.at kqdX11_useless_0 16 rfl
theorem dX11_useless_28 : decode cX11_useless 28 = .ok (.iload_n 1, 1) := kq.at kqdX11_useless_0 17 rfl
theorem dX11_useless_29 : decode cX11_useless 29 = .ok (.aload_n 0, 1) := kq.at kqdX11_useless_0 18 rfl
theorem dX11_useless_30 : decode cX11_useless 30 = .ok (.getfield 7, 3) := kq.at kqdX11_useless_0 19 rfl
theorem dX11_useless_33 : decode cX11_useless 33 = .ok (.bipush 6, 2) := kq.at kqdX11_useless_0 20 rfl
theorem dX11_useless_35 : decode cX11_useless 35 = .ok (.iaload, 1) := kq.at kqdX11_useless_0 21 rfl
theorem dX11_useless_36 : decode cX11_useless 36 = .ok (.iload_n 2, 1) := kq.at kqdX11_useless_0 22 rfl
theorem dX11_useless_37 : decode cX11_useless 37 = .ok (.invokestatic 249, 3) := kq.at kqdX11_useless_0 23 rfl
theorem kqdX11_useless_40 : kq cX11_useless [(40, .ifCond .ne 22, 3), (43, .aload_n 0, 1), (44, .getfield 7, 3), (47, .sipush 2010, 3), (50, .iload_n 2, 1), (51, .iadd, 1), (52, .iaload, 1), (53, .ifCond .ne 9, 3), (56, .iconst 1, 1), (57, .iload_n 2, 1), (58, .ishl, 1), (59, .goto 4, 3), (62, .iconst 0, 1), (63, .ior, 1), (64, .istore_n 1, 1), (65, .iinc 2 1, 3), (68, .goto (-50), 3), (71, .aload_n 0, 1), (72, .iload_n 1, 1), (73, .invokevirtual 191, 3), (76, .ireturn, 1)] = true := by decide +kernel
theorem dX11_useless_40 : decode cX11_useless 40 = .ok (.ifCond .ne 22, 3) := kq.at kqdX11_useless_40 0 rfl
theorem dX11_useless_43 : decode cX11_useless 43 = .ok (.aload_n 0, 1) := kq.at kqdX11_useless_40 1 rfl
theorem dX11_useless_44 : decode cX11_useless 44 = .ok (.getfield 7, 3) := kq.at kqdX11_useless_40 2 rfl
theorem dX11_useless_47 : decode cX11_useless 47 = .ok (.sipush 2010, 3) := kq.at kqdX11_useless_40 3 rfl
theorem dX11_useless_50 : decode cX11_useless 50 = .ok (.iload_n 2, 1) := kq.at kqdX11_useless_40 4 rfl
theorem dX11_useless_51 : decode cX11_useless 51 = .ok (.iadd, 1) := kq.at kqdX11_useless_40 5 rfl
theorem dX11_useless_52 : decode cX11_useless 52 = .ok (.iaload, 1) := kq.at kqdX11_useless_40 6 rfl
theorem dX11_useless_53 : decode cX11_useless 53 = .ok (.ifCond .ne 9, 3) := kq.at kqdX11_useless_40 7 rfl
theorem dX11_useless_56 : decode cX11_useless 56 = .ok (.iconst 1, 1) := kq.at kqdX11_useless_40 8 rfl
theorem dX11_useless_57 : decode cX11_useless 57 = .ok (.iload_n 2, 1) := kq.at kqdX11_useless_40 9 rfl
theorem dX11_useless_58 : decode cX11_useless 58 = .ok (.ishl, 1) := kq.at kqdX11_useless_40 10 rfl
theorem dX11_useless_59 : decode cX11_useless 59 = .ok (.goto 4, 3) := kq.at kqdX11_useless_40 11 rfl
theorem dX11_useless_62 : decode cX11_useless 62 = .ok (.iconst 0, 1) := kq.at kqdX11_useless_40 12 rfl
theorem dX11_useless_63 : decode cX11_useless 63 = .ok (.ior, 1) := kq.at kqdX11_useless_40 13 rfl
theorem dX11_useless_64 : decode cX11_useless 64 = .ok (.istore_n 1, 1) := kq.at kqdX11_useless_40 14 rfl
theorem dX11_useless_65 : decode cX11_useless 65 = .ok (.iinc 2 1, 3) := kq.at kqdX11_useless_40 15 rfl
theorem dX11_useless_68 : decode cX11_useless 68 = .ok (.goto (-50), 3) := kq.at kqdX11_useless_40 16 rfl
theorem dX11_useless_71 : decode cX11_useless 71 = .ok (.aload_n 0, 1) := kq.at kqdX11_useless_40 17 rfl
theorem dX11_useless_72 : decode cX11_useless 72 = .ok (.iload_n 1, 1) := kq.at kqdX11_useless_40 18 rfl
theorem dX11_useless_73 : decode cX11_useless 73 = .ok (.invokevirtual 191, 3) := kq.at kqdX11_useless_40 19 rfl
theorem dX11_useless_76 : decode cX11_useless 76 = .ok (.ireturn, 1) := kq.at kqdX11_useless_40 20 rfl
theorem kqdX11_bits_0 : kq cX11_bits [(0, .iconst 0, 1), (1, .istore_n 1, 1), (2, .iload_n 0, 1), (3, .istore_n 2, 1), (4, .iload_n 2, 1), (5, .ifCond .eq 15, 3), (8, .iinc 1 1, 3), (11, .iload_n 2, 1), (12, .iload_n 2, 1), (13, .iconst 1, 1), (14, .isub, 1), (15, .iand, 1), (16, .istore_n 2, 1), (17, .goto (-13), 3), (20, .iload_n 1, 1), (21, .ireturn, 1)] = true := by decide +kernel
theorem dX11_bits_0 : decode cX11_bits 0 = .ok (.iconst 0, 1) := kq.at kqdX11_bits_0 0 rfl
theorem dX11_bits_1 : decode cX11_bits 1 = .ok (.istore_n 1, 1) := kq.at kqdX11_bits_0 1 rfl
theorem dX11_bits_2 : decode cX11_bits 2 = .ok (.iload_n 0, 1) := kq.at kqdX11_bits_0 2 rfl
theorem dX11_bits_3 : decode cX11_bits 3 = .ok (.istore_n 2, 1) := kq.at kqdX11_bits_0 3 rfl
theorem dX11_bits_4 : decode cX11_bits 4 = .ok (.iload_n 2, 1) := kq.at kqdX11_bits_0 4 rfl
theorem dX11_bits_5 : decode cX11_bits 5 = .ok (.ifCond .eq 15, 3) := kq.at kqdX11_bits_0 5 rfl
theorem dX11_bits_8 : decode cX11_bits 8 = .ok (.iinc 1 1, 3) := kq.at kqdX11_bits_0 6 rfl
theorem dX11_bits_11 : decode cX11_bits 11 = .ok (.iload_n 2, 1) := kq.at kqdX11_bits_0 7 rfl
theorem dX11_bits_12 : decode cX11_bits 12 = .ok (.iload_n 2, 1) := kq.at kqdX11_bits_0 8 rfl
theorem dX11_bits_13 : decode cX11_bits 13 = .ok (.iconst 1, 1) := kq.at kqdX11_bits_0 9 rfl
theorem dX11_bits_14 : decode cX11_bits 14 = .ok (.isub, 1) := kq.at kqdX11_bits_0 10 rfl
theorem dX11_bits_15 : decode cX11_bits 15 = .ok (.iand, 1) := kq.at kqdX11_bits_0 11 rfl
theorem dX11_bits_16 : decode cX11_bits 16 = .ok (.istore_n 2, 1) := kq.at kqdX11_bits_0 12 rfl
theorem dX11_bits_17 : decode cX11_bits 17 = .ok (.goto (-13), 3) := kq.at kqdX11_bits_0 13 rfl
theorem dX11_bits_20 : decode cX11_bits 20 = .ok (.iload_n 1, 1) := kq.at kqdX11_bits_0 14 rfl
theorem dX11_bits_21 : decode cX11_bits 21 = .ok (.ireturn, 1) := kq.at kqdX11_bits_0 15 rfl
theorem kqdX11_dots_0 : kq cX11_dots [(0, .aload_n 0, 1), (1, .invokevirtual 306, 3), (4, .ifCond .ne 10, 3), (7, .aload_n 0, 1), (8, .bipush 6, 2), (10, .invokevirtual 188, 3), (13, .ireturn, 1), (14, .iconst 0, 1), (15, .istore_n 1, 1), (16, .iconst 0, 1), (17, .istore_n 2, 1), (18, .iload_n 2, 1), (19, .aload_n 0, 1), (20, .getfield 7, 3), (23, .bipush 8, 2), (25, .iaload, 1), (26, .if_icmp .ge 25, 3), (29, .iload_n 1, 1), (30, .aload_n 0, 1), (31, .getfield 7, 3), (34, .sipush 600, 3), (37, .iload_n 2, 1), (38, .iadd, 1), (39, .iaload, 1)] = true := by decide +kernel
theorem dX11_dots_0 : decode cX11_dots 0 = .ok (.aload_n 0, 1) := kq.at kqdX11_dots_0 0 rfl
theorem dX11_dots_1 : decode cX11_dots 1 = .ok (.invokevirtual 306, 3) := kq.at kqdX11_dots_0 1 rfl
theorem dX11_dots_4 : decode cX11_dots 4 = .ok (.ifCond .ne 10, 3) := kq.at kqdX11_dots_0 2 rfl
theorem dX11_dots_7 : decode cX11_dots 7 = .ok (.aload_n 0, 1) := kq.at kqdX11_dots_0 3 rfl
theorem dX11_dots_8 : decode cX11_dots 8 = .ok (.bipush 6, 2) := kq.at kqdX11_dots_0 4 rfl
theorem dX11_dots_10 : decode cX11_dots 10 = .ok (.invokevirtual 188, 3) := kq.at kqdX11_dots_0 5 rfl
theorem dX11_dots_13 : decode cX11_dots 13 = .ok (.ireturn, 1) := kq.at kqdX11_dots_0 6 rfl
theorem dX11_dots_14 : decode cX11_dots 14 = .ok (.iconst 0, 1) := kq.at kqdX11_dots_0 7 rfl
theorem dX11_dots_15 : decode cX11_dots 15 = .ok (.istore_n 1, 1) := kq.at kqdX11_dots_0 8 rfl
theorem dX11_dots_16 : decode cX11_dots 16 = .ok (.iconst 0, 1) := kq.at kqdX11_dots_0 9 rfl
theorem dX11_dots_17 : decode cX11_dots 17 = .ok (.istore_n 2, 1) := kq.at kqdX11_dots_0 10 rfl
theorem dX11_dots_18 : decode cX11_dots 18 = .ok (.iload_n 2, 1) := kq.at kqdX11_dots_0 11 rfl
theorem dX11_dots_19 : decode cX11_dots 19 = .ok (.aload_n 0, 1) := kq.at kqdX11_dots_0 12 rfl
theorem dX11_dots_20 : decode cX11_dots 20 = .ok (.getfield 7, 3) := kq.at kqdX11_dots_0 13 rfl
theorem dX11_dots_23 : decode cX11_dots 23 = .ok (.bipush 8, 2) := kq.at kqdX11_dots_0 14 rfl
theorem dX11_dots_25 : decode cX11_dots 25 = .ok (.iaload, 1) := kq.at kqdX11_dots_0 15 rfl
theorem dX11_dots_26 : decode cX11_dots 26 = .ok (.if_icmp .ge 25, 3) := kq.at kqdX11_dots_0 16 rfl
theorem dX11_dots_29 : decode cX11_dots 29 = .ok (.iload_n 1, 1) := kq.at kqdX11_dots_0 17 rfl
theorem dX11_dots_30 : decode cX11_dots 30 = .ok (.aload_n 0, 1) := kq.at kqdX11_dots_0 18 rfl
theorem dX11_dots_31 : decode cX11_dots 31 = .ok (.getfield 7, 3) := kq.at kqdX11_dots_0 19 rfl
theorem dX11_dots_34 : decode cX11_dots 34 = .ok (.sipush 600, 3) := kq.at kqdX11_dots_0 20 rfl
theorem dX11_dots_37 : decode cX11_dots 37 = .ok (.iload_n 2, 1) := kq.at kqdX11_dots_0 21 rfl
theorem dX11_dots_38 : decode cX11_dots 38 = .ok (.iadd, 1) := kq.at kqdX11_dots_0 22 rfl
theorem dX11_dots_39 : decode cX11_dots 39 = .ok (.iaload, 1) := kq.at kqdX11_dots_0 23 rfl
theorem kqdX11_dots_40 : kq cX11_dots [(40, .invokestatic 336, 3), (43, .iadd, 1), (44, .istore_n 1, 1), (45, .iinc 2 1, 3), (48, .goto (-30), 3), (51, .aload_n 0, 1), (52, .iload_n 1, 1), (53, .invokevirtual 191, 3), (56, .ireturn, 1)] = true := by decide +kernel
theorem dX11_dots_40 : decode cX11_dots 40 = .ok (.invokestatic 336, 3) := kq.at kqdX11_dots_40 0 rfl
theorem dX11_dots_43 : decode cX11_dots 43 = .ok (.iadd, 1) := kq.at kqdX11_dots_40 1 rfl
theorem dX11_dots_44 : decode cX11_dots 44 = .ok (.istore_n 1, 1) := kq.at kqdX11_dots_40 2 rfl
theorem dX11_dots_45 : decode cX11_dots 45 = .ok (.iinc 2 1, 3) := kq.at kqdX11_dots_40 3 rfl
theorem dX11_dots_48 : decode cX11_dots 48 = .ok (.goto (-30), 3) := kq.at kqdX11_dots_40 4 rfl
theorem dX11_dots_51 : decode cX11_dots 51 = .ok (.aload_n 0, 1) := kq.at kqdX11_dots_40 5 rfl
theorem dX11_dots_52 : decode cX11_dots 52 = .ok (.iload_n 1, 1) := kq.at kqdX11_dots_40 6 rfl
theorem dX11_dots_53 : decode cX11_dots 53 = .ok (.invokevirtual 191, 3) := kq.at kqdX11_dots_40 7 rfl
theorem dX11_dots_56 : decode cX11_dots 56 = .ok (.ireturn, 1) := kq.at kqdX11_dots_40 8 rfl
theorem kqdX11_piece_0 : kq cX11_piece [(0, .iload_n 2, 1), (1, .ifCond .lt 8, 3), (4, .iload_n 2, 1), (5, .iconst 1, 1), (6, .if_icmp .le 9, 3), (9, .aload_n 0, 1), (10, .iconst 1, 1), (11, .invokevirtual 188, 3), (14, .ireturn, 1), (15, .aload_n 0, 1), (16, .invokevirtual 306, 3), (19, .ifCond .eq 18, 3), (22, .iload_n 1, 1), (23, .ifCond .lt 14, 3), (26, .iload_n 1, 1), (27, .aload_n 0, 1), (28, .getfield 7, 3), (31, .bipush 9, 2), (33, .iaload, 1), (34, .if_icmp .lt 10, 3), (37, .aload_n 0, 1), (38, .bipush 6, 2), (40, .invokevirtual 188, 3), (43, .ireturn, 1)] = true := by decide +kernel
theorem dX11_piece_0 : decode cX11_piece 0 = .ok (.iload_n 2, 1) := kq.at kqdX11_piece_0 0 rfl
theorem dX11_piece_1 : decode cX11_piece 1 = .ok (.ifCond .lt 8, 3) := kq.at kqdX11_piece_0 1 rfl
theorem dX11_piece_4 : decode cX11_piece 4 = .ok (.iload_n 2, 1) := kq.at kqdX11_piece_0 2 rfl
theorem dX11_piece_5 : decode cX11_piece 5 = .ok (.iconst 1, 1) := kq.at kqdX11_piece_0 3 rfl
theorem dX11_piece_6 : decode cX11_piece 6 = .ok (.if_icmp .le 9, 3) := kq.at kqdX11_piece_0 4 rfl
theorem dX11_piece_9 : decode cX11_piece 9 = .ok (.aload_n 0, 1) := kq.at kqdX11_piece_0 5 rfl
theorem dX11_piece_10 : decode cX11_piece 10 = .ok (.iconst 1, 1) := kq.at kqdX11_piece_0 6 rfl
theorem dX11_piece_11 : decode cX11_piece 11 = .ok (.invokevirtual 188, 3) := kq.at kqdX11_piece_0 7 rfl
theorem dX11_piece_14 : decode cX11_piece 14 = .ok (.ireturn, 1) := kq.at kqdX11_piece_0 8 rfl
theorem dX11_piece_15 : decode cX11_piece 15 = .ok (.aload_n 0, 1) := kq.at kqdX11_piece_0 9 rfl
theorem dX11_piece_16 : decode cX11_piece 16 = .ok (.invokevirtual 306, 3) := kq.at kqdX11_piece_0 10 rfl
theorem dX11_piece_19 : decode cX11_piece 19 = .ok (.ifCond .eq 18, 3) := kq.at kqdX11_piece_0 11 rfl
theorem dX11_piece_22 : decode cX11_piece 22 = .ok (.iload_n 1, 1) := kq.at kqdX11_piece_0 12 rfl
theorem dX11_piece_23 : decode cX11_piece 23 = .ok (.ifCond .lt 14, 3) := kq.at kqdX11_piece_0 13 rfl
theorem dX11_piece_26 : decode cX11_piece 26 = .ok (.iload_n 1, 1) := kq.at kqdX11_piece_0 14 rfl
theorem dX11_piece_27 : decode cX11_piece 27 = .ok (.aload_n 0, 1) := kq.at kqdX11_piece_0 15 rfl
theorem dX11_piece_28 : decode cX11_piece 28 = .ok (.getfield 7, 3) := kq.at kqdX11_piece_0 16 rfl
theorem dX11_piece_31 : decode cX11_piece 31 = .ok (.bipush 9, 2) := kq.at kqdX11_piece_0 17 rfl
theorem dX11_piece_33 : decode cX11_piece 33 = .ok (.iaload, 1) := kq.at kqdX11_piece_0 18 rfl
theorem dX11_piece_34 : decode cX11_piece 34 = .ok (.if_icmp .lt 10, 3) := kq.at kqdX11_piece_0 19 rfl
theorem dX11_piece_37 : decode cX11_piece 37 = .ok (.aload_n 0, 1) := kq.at kqdX11_piece_0 20 rfl
theorem dX11_piece_38 : decode cX11_piece 38 = .ok (.bipush 6, 2) := kq.at kqdX11_piece_0 21 rfl
theorem dX11_piece_40 : decode cX11_piece 40 = .ok (.invokevirtual 188, 3) := kq.at kqdX11_piece_0 22 rfl
theorem dX11_piece_43 : decode cX11_piece 43 = .ok (.ireturn, 1) := kq.at kqdX11_piece_0 23 rfl
theorem kqdX11_piece_44 : kq cX11_piece [(44, .aload_n 0, 1), (45, .invokevirtual 330, 3), (48, .aload_n 0, 1), (49, .iload_n 2, 1), (50, .ifCond .ne 11, 3), (53, .aload_n 0, 1), (54, .iload_n 1, 1), (55, .invokevirtual 321, 3), (58, .goto 9, 3), (61, .aload_n 0, 1), (62, .getfield 50, 3), (65, .iload_n 1, 1), (66, .iaload, 1), (67, .invokevirtual 191, 3), (70, .ireturn, 1)] = true := by decide +kernel
theorem dX11_piece_44 : decode cX11_piece 44 = .ok (.aload_n 0, 1) := kq.at kqdX11_piece_44 0 rfl
theorem dX11_piece_45 : decode cX11_piece 45 = .ok (.invokevirtual 330, 3) := kq.at kqdX11_piece_44 1 rfl
theorem dX11_piece_48 : decode cX11_piece 48 = .ok (.aload_n 0, 1) := kq.at kqdX11_piece_44 2 rfl
theorem dX11_piece_49 : decode cX11_piece 49 = .ok (.iload_n 2, 1) := kq.at kqdX11_piece_44 3 rfl
theorem dX11_piece_50 : decode cX11_piece 50 = .ok (.ifCond .ne 11, 3) := kq.at kqdX11_piece_44 4 rfl
theorem dX11_piece_53 : decode cX11_piece 53 = .ok (.aload_n 0, 1) := kq.at kqdX11_piece_44 5 rfl
theorem dX11_piece_54 : decode cX11_piece 54 = .ok (.iload_n 1, 1) := kq.at kqdX11_piece_44 6 rfl
theorem dX11_piece_55 : decode cX11_piece 55 = .ok (.invokevirtual 321, 3) := kq.at kqdX11_piece_44 7 rfl
theorem dX11_piece_58 : decode cX11_piece 58 = .ok (.goto 9, 3) := kq.at kqdX11_piece_44 8 rfl
theorem dX11_piece_61 : decode cX11_piece 61 = .ok (.aload_n 0, 1) := kq.at kqdX11_piece_44 9 rfl
theorem dX11_piece_62 : decode cX11_piece 62 = .ok (.getfield 50, 3) := kq.at kqdX11_piece_44 10 rfl
theorem dX11_piece_65 : decode cX11_piece 65 = .ok (.iload_n 1, 1) := kq.at kqdX11_piece_44 11 rfl
theorem dX11_piece_66 : decode cX11_piece 66 = .ok (.iaload, 1) := kq.at kqdX11_piece_44 12 rfl
theorem dX11_piece_67 : decode cX11_piece 67 = .ok (.invokevirtual 191, 3) := kq.at kqdX11_piece_44 13 rfl
theorem dX11_piece_70 : decode cX11_piece 70 = .ok (.ireturn, 1) := kq.at kqdX11_piece_44 14 rfl
theorem kqdX11_by_0 : kq cX11_by [(0, .aload_n 0, 1), (1, .invokevirtual 306, 3), (4, .ifCond .eq 32, 3), (7, .iload_n 1, 1), (8, .ifCond .lt 28, 3), (11, .iload_n 1, 1), (12, .aload_n 0, 1), (13, .getfield 7, 3), (16, .bipush 8, 2), (18, .iaload, 1), (19, .if_icmp .ge 17, 3), (22, .aload_n 0, 1), (23, .getfield 7, 3), (26, .sipush 2040, 3), (29, .iload_n 1, 1), (30, .iadd, 1), (31, .iaload, 1), (32, .iconst (-1), 1), (33, .if_icmp .ne 12, 3), (36, .aload_n 0, 1), (37, .bipush 6, 2), (39, .invokevirtual 188, 3), (42, .goto 17, 3), (45, .aload_n 0, 1)] = true := by decide +kernel
theorem dX11_by_0 : decode cX11_by 0 = .ok (.aload_n 0, 1) := kq.at kqdX11_by_0 0 rfl
theorem dX11_by_1 : decode cX11_by 1 = .ok (.invokevirtual 306, 3) := kq.at kqdX11_by_0 1 rfl
theorem dX11_by_4 : decode cX11_by 4 = .ok (.ifCond .eq 32, 3) := kq.at kqdX11_by_0 2 rfl
theorem dX11_by_7 : decode cX11_by 7 = .ok (.iload_n 1, 1) := kq.at kqdX11_by_0 3 rfl
theorem dX11_by_8 : decode cX11_by 8 = .ok (.ifCond .lt 28, 3) := kq.at kqdX11_by_0 4 rfl
theorem dX11_by_11 : decode cX11_by 11 = .ok (.iload_n 1, 1) := kq.at kqdX11_by_0 5 rfl
theorem dX11_by_12 : decode cX11_by 12 = .ok (.aload_n 0, 1) := kq.at kqdX11_by_0 6 rfl
theorem dX11_by_13 : decode cX11_by 13 = .ok (.getfield 7, 3) := kq.at kqdX11_by_0 7 rfl
theorem dX11_by_16 : decode cX11_by 16 = .ok (.bipush 8, 2) := kq.at kqdX11_by_0 8 rfl
theorem dX11_by_18 : decode cX11_by 18 = .ok (.iaload, 1) := kq.at kqdX11_by_0 9 rfl
theorem dX11_by_19 : decode cX11_by 19 = .ok (.if_icmp .ge 17, 3) := kq.at kqdX11_by_0 10 rfl
theorem dX11_by_22 : decode cX11_by 22 = .ok (.aload_n 0, 1) := kq.at kqdX11_by_0 11 rfl
theorem dX11_by_23 : decode cX11_by 23 = .ok (.getfield 7, 3) := kq.at kqdX11_by_0 12 rfl
theorem dX11_by_26 : decode cX11_by 26 = .ok (.sipush 2040, 3) := kq.at kqdX11_by_0 13 rfl
theorem dX11_by_29 : decode cX11_by 29 = .ok (.iload_n 1, 1) := kq.at kqdX11_by_0 14 rfl
theorem dX11_by_30 : decode cX11_by 30 = .ok (.iadd, 1) := kq.at kqdX11_by_0 15 rfl
theorem dX11_by_31 : decode cX11_by 31 = .ok (.iaload, 1) := kq.at kqdX11_by_0 16 rfl
theorem dX11_by_32 : decode cX11_by 32 = .ok (.iconst (-1), 1) := kq.at kqdX11_by_0 17 rfl
theorem dX11_by_33 : decode cX11_by 33 = .ok (.if_icmp .ne 12, 3) := kq.at kqdX11_by_0 18 rfl
theorem dX11_by_36 : decode cX11_by 36 = .ok (.aload_n 0, 1) := kq.at kqdX11_by_0 19 rfl
theorem dX11_by_37 : decode cX11_by 37 = .ok (.bipush 6, 2) := kq.at kqdX11_by_0 20 rfl
theorem dX11_by_39 : decode cX11_by 39 = .ok (.invokevirtual 188, 3) := kq.at kqdX11_by_0 21 rfl
theorem dX11_by_42 : decode cX11_by 42 = .ok (.goto 17, 3) := kq.at kqdX11_by_0 22 rfl
theorem dX11_by_45 : decode cX11_by 45 = .ok (.aload_n 0, 1) := kq.at kqdX11_by_0 23 rfl
theorem kqdX11_by_46 : kq cX11_by [(46, .aload_n 0, 1), (47, .getfield 7, 3), (50, .sipush 2040, 3), (53, .iload_n 1, 1), (54, .iadd, 1), (55, .iaload, 1), (56, .invokevirtual 191, 3), (59, .ireturn, 1)] = true := by decide +kernel
theorem dX11_by_46 : decode cX11_by 46 = .ok (.aload_n 0, 1) := kq.at kqdX11_by_46 0 rfl
theorem dX11_by_47 : decode cX11_by 47 = .ok (.getfield 7, 3) := kq.at kqdX11_by_46 1 rfl
theorem dX11_by_50 : decode cX11_by 50 = .ok (.sipush 2040, 3) := kq.at kqdX11_by_46 2 rfl
theorem dX11_by_53 : decode cX11_by 53 = .ok (.iload_n 1, 1) := kq.at kqdX11_by_46 3 rfl
theorem dX11_by_54 : decode cX11_by 54 = .ok (.iadd, 1) := kq.at kqdX11_by_46 4 rfl
theorem dX11_by_55 : decode cX11_by 55 = .ok (.iaload, 1) := kq.at kqdX11_by_46 5 rfl
theorem dX11_by_56 : decode cX11_by 56 = .ok (.invokevirtual 191, 3) := kq.at kqdX11_by_46 6 rfl
theorem dX11_by_59 : decode cX11_by 59 = .ok (.ireturn, 1) := kq.at kqdX11_by_46 7 rfl
theorem kqdX11_dense_0 : kq cX11_dense [(0, .iload_n 1, 1), (1, .i2l, 1), (2, .lconst 1, 1), (3, .ldc2_w 339, 3), (6, .invokestatic 341, 3), (9, .ifCond .ne 9, 3), (12, .aload_n 0, 1), (13, .iconst 1, 1), (14, .invokevirtual 188, 3), (17, .ireturn, 1), (18, .aload_n 0, 1), (19, .invokevirtual 306, 3), (22, .ifCond .ne 10, 3), (25, .aload_n 0, 1), (26, .bipush 6, 2), (28, .invokevirtual 188, 3), (31, .ireturn, 1), (32, .iload_n 1, 1), (33, .aload_n 0, 1), (34, .getfield 7, 3), (37, .bipush 8, 2), (39, .iaload, 1), (40, .if_icmp .le 10, 3), (43, .aload_n 0, 1)] = true := by decide +kernel
theorem dX11_dense_0 : decode cX11_dense 0 = .ok (.iload_n 1, 1) := kq.at kqdX11_dense_0 0 rfl
theorem dX11_dense_1 : decode cX11_dense 1 = .ok (.i2l, 1) := kq.at kqdX11_dense_0 1 rfl
theorem dX11_dense_2 : decode cX11_dense 2 = .ok (.lconst 1, 1) := kq.at kqdX11_dense_0 2 rfl
theorem dX11_dense_3 : decode cX11_dense 3 = .ok (.ldc2_w 339, 3) := kq.at kqdX11_dense_0 3 rfl
theorem dX11_dense_6 : decode cX11_dense 6 = .ok (.invokestatic 341, 3) := kq.at kqdX11_dense_0 4 rfl
theorem dX11_dense_9 : decode cX11_dense 9 = .ok (.ifCond .ne 9, 3) := kq.at kqdX11_dense_0 5 rfl
theorem dX11_dense_12 : decode cX11_dense 12 = .ok (.aload_n 0, 1) := kq.at kqdX11_dense_0 6 rfl
theorem dX11_dense_13 : decode cX11_dense 13 = .ok (.iconst 1, 1) := kq.at kqdX11_dense_0 7 rfl
theorem dX11_dense_14 : decode cX11_dense 14 = .ok (.invokevirtual 188, 3) := kq.at kqdX11_dense_0 8 rfl
theorem dX11_dense_17 : decode cX11_dense 17 = .ok (.ireturn, 1) := kq.at kqdX11_dense_0 9 rfl
theorem dX11_dense_18 : decode cX11_dense 18 = .ok (.aload_n 0, 1) := kq.at kqdX11_dense_0 10 rfl
theorem dX11_dense_19 : decode cX11_dense 19 = .ok (.invokevirtual 306, 3) := kq.at kqdX11_dense_0 11 rfl
theorem dX11_dense_22 : decode cX11_dense 22 = .ok (.ifCond .ne 10, 3) := kq.at kqdX11_dense_0 12 rfl
theorem dX11_dense_25 : decode cX11_dense 25 = .ok (.aload_n 0, 1) := kq.at kqdX11_dense_0 13 rfl
theorem dX11_dense_26 : decode cX11_dense 26 = .ok (.bipush 6, 2) := kq.at kqdX11_dense_0 14 rfl
theorem dX11_dense_28 : decode cX11_dense 28 = .ok (.invokevirtual 188, 3) := kq.at kqdX11_dense_0 15 rfl
theorem dX11_dense_31 : decode cX11_dense 31 = .ok (.ireturn, 1) := kq.at kqdX11_dense_0 16 rfl
theorem dX11_dense_32 : decode cX11_dense 32 = .ok (.iload_n 1, 1) := kq.at kqdX11_dense_0 17 rfl
theorem dX11_dense_33 : decode cX11_dense 33 = .ok (.aload_n 0, 1) := kq.at kqdX11_dense_0 18 rfl
theorem dX11_dense_34 : decode cX11_dense 34 = .ok (.getfield 7, 3) := kq.at kqdX11_dense_0 19 rfl
theorem dX11_dense_37 : decode cX11_dense 37 = .ok (.bipush 8, 2) := kq.at kqdX11_dense_0 20 rfl
theorem dX11_dense_39 : decode cX11_dense 39 = .ok (.iaload, 1) := kq.at kqdX11_dense_0 21 rfl
theorem dX11_dense_40 : decode cX11_dense 40 = .ok (.if_icmp .le 10, 3) := kq.at kqdX11_dense_0 22 rfl
theorem dX11_dense_43 : decode cX11_dense 43 = .ok (.aload_n 0, 1) := kq.at kqdX11_dense_0 23 rfl
theorem kqdX11_dense_44 : kq cX11_dense [(44, .bipush 7, 2), (46, .invokevirtual 188, 3), (49, .ireturn, 1), (50, .iconst 0, 1), (51, .istore_n 2, 1), (52, .iconst 0, 1), (53, .istore_n 3, 1), (54, .iconst 0, 1), (55, .istore 4, 2), (57, .iload 4, 2), (59, .aload_n 0, 1), (60, .getfield 7, 3), (63, .bipush 8, 2), (65, .iaload, 1), (66, .if_icmp .ge 67, 3), (69, .iload_n 3, 1), (70, .aload_n 0, 1), (71, .getfield 7, 3), (74, .sipush 600, 3), (77, .iload 4, 2), (79, .iadd, 1), (80, .iaload, 1), (81, .invokestatic 336, 3), (84, .iload 4, 2)] = true := by decide +kernel
theorem dX11_dense_44 : decode cX11_dense 44 = .ok (.bipush 7, 2) := kq.at kqdX11_dense_44 0 rfl
theorem dX11_dense_46 : decode cX11_dense 46 = .ok (.invokevirtual 188, 3) := kq.at kqdX11_dense_44 1 rfl
theorem dX11_dense_49 : decode cX11_dense 49 = .ok (.ireturn, 1) := kq.at kqdX11_dense_44 2 rfl
theorem dX11_dense_50 : decode cX11_dense 50 = .ok (.iconst 0, 1) := kq.at kqdX11_dense_44 3 rfl
theorem dX11_dense_51 : decode cX11_dense 51 = .ok (.istore_n 2, 1) := kq.at kqdX11_dense_44 4 rfl
theorem dX11_dense_52 : decode cX11_dense 52 = .ok (.iconst 0, 1) := kq.at kqdX11_dense_44 5 rfl
theorem dX11_dense_53 : decode cX11_dense 53 = .ok (.istore_n 3, 1) := kq.at kqdX11_dense_44 6 rfl
theorem dX11_dense_54 : decode cX11_dense 54 = .ok (.iconst 0, 1) := kq.at kqdX11_dense_44 7 rfl
theorem dX11_dense_55 : decode cX11_dense 55 = .ok (.istore 4, 2) := kq.at kqdX11_dense_44 8 rfl
theorem dX11_dense_57 : decode cX11_dense 57 = .ok (.iload 4, 2) := kq.at kqdX11_dense_44 9 rfl
theorem dX11_dense_59 : decode cX11_dense 59 = .ok (.aload_n 0, 1) := kq.at kqdX11_dense_44 10 rfl
theorem dX11_dense_60 : decode cX11_dense 60 = .ok (.getfield 7, 3) := kq.at kqdX11_dense_44 11 rfl
theorem dX11_dense_63 : decode cX11_dense 63 = .ok (.bipush 8, 2) := kq.at kqdX11_dense_44 12 rfl
theorem dX11_dense_65 : decode cX11_dense 65 = .ok (.iaload, 1) := kq.at kqdX11_dense_44 13 rfl
theorem dX11_dense_66 : decode cX11_dense 66 = .ok (.if_icmp .ge 67, 3) := kq.at kqdX11_dense_44 14 rfl
theorem dX11_dense_69 : decode cX11_dense 69 = .ok (.iload_n 3, 1) := kq.at kqdX11_dense_44 15 rfl
theorem dX11_dense_70 : decode cX11_dense 70 = .ok (.aload_n 0, 1) := kq.at kqdX11_dense_44 16 rfl
theorem dX11_dense_71 : decode cX11_dense 71 = .ok (.getfield 7, 3) := kq.at kqdX11_dense_44 17 rfl
theorem dX11_dense_74 : decode cX11_dense 74 = .ok (.sipush 600, 3) := kq.at kqdX11_dense_44 18 rfl
theorem dX11_dense_77 : decode cX11_dense 77 = .ok (.iload 4, 2) := kq.at kqdX11_dense_44 19 rfl
theorem dX11_dense_79 : decode cX11_dense 79 = .ok (.iadd, 1) := kq.at kqdX11_dense_44 20 rfl
theorem dX11_dense_80 : decode cX11_dense 80 = .ok (.iaload, 1) := kq.at kqdX11_dense_44 21 rfl
theorem dX11_dense_81 : decode cX11_dense 81 = .ok (.invokestatic 336, 3) := kq.at kqdX11_dense_44 22 rfl
theorem dX11_dense_84 : decode cX11_dense 84 = .ok (.iload 4, 2) := kq.at kqdX11_dense_44 23 rfl
theorem kqdX11_dense_86 : kq cX11_dense [(86, .iload_n 1, 1), (87, .if_icmp .lt 22, 3), (90, .aload_n 0, 1), (91, .getfield 7, 3), (94, .sipush 600, 3), (97, .iload 4, 2), (99, .iadd, 1), (100, .iload_n 1, 1), (101, .isub, 1), (102, .iaload, 1), (103, .invokestatic 336, 3), (106, .goto 4, 3), (109, .iconst 0, 1), (110, .isub, 1), (111, .iadd, 1), (112, .istore_n 3, 1), (113, .iload 4, 2), (115, .iconst 1, 1), (116, .iadd, 1), (117, .iload_n 1, 1), (118, .if_icmp .lt 9, 3), (121, .iload_n 2, 1), (122, .iload_n 3, 1), (123, .invokestatic 345, 3)] = true := by decide +kernel
theorem dX11_dense_86 : decode cX11_dense 86 = .ok (.iload_n 1, 1) := kq.at kqdX11_dense_86 0 rfl
theorem dX11_dense_87 : decode cX11_dense 87 = .ok (.if_icmp .lt 22, 3) := kq.at kqdX11_dense_86 1 rfl
theorem dX11_dense_90 : decode cX11_dense 90 = .ok (.aload_n 0, 1) := kq.at kqdX11_dense_86 2 rfl
theorem dX11_dense_91 : decode cX11_dense 91 = .ok (.getfield 7, 3) := kq.at kqdX11_dense_86 3 rfl
theorem dX11_dense_94 : decode cX11_dense 94 = .ok (.sipush 600, 3) := kq.at kqdX11_dense_86 4 rfl
theorem dX11_dense_97 : decode cX11_dense 97 = .ok (.iload 4, 2) := kq.at kqdX11_dense_86 5 rfl
theorem dX11_dense_99 : decode cX11_dense 99 = .ok (.iadd, 1) := kq.at kqdX11_dense_86 6 rfl
theorem dX11_dense_100 : decode cX11_dense 100 = .ok (.iload_n 1, 1) := kq.at kqdX11_dense_86 7 rfl
theorem dX11_dense_101 : decode cX11_dense 101 = .ok (.isub, 1) := kq.at kqdX11_dense_86 8 rfl
theorem dX11_dense_102 : decode cX11_dense 102 = .ok (.iaload, 1) := kq.at kqdX11_dense_86 9 rfl
theorem dX11_dense_103 : decode cX11_dense 103 = .ok (.invokestatic 336, 3) := kq.at kqdX11_dense_86 10 rfl
theorem dX11_dense_106 : decode cX11_dense 106 = .ok (.goto 4, 3) := kq.at kqdX11_dense_86 11 rfl
theorem dX11_dense_109 : decode cX11_dense 109 = .ok (.iconst 0, 1) := kq.at kqdX11_dense_86 12 rfl
theorem dX11_dense_110 : decode cX11_dense 110 = .ok (.isub, 1) := kq.at kqdX11_dense_86 13 rfl
theorem dX11_dense_111 : decode cX11_dense 111 = .ok (.iadd, 1) := kq.at kqdX11_dense_86 14 rfl
theorem dX11_dense_112 : decode cX11_dense 112 = .ok (.istore_n 3, 1) := kq.at kqdX11_dense_86 15 rfl
theorem dX11_dense_113 : decode cX11_dense 113 = .ok (.iload 4, 2) := kq.at kqdX11_dense_86 16 rfl
theorem dX11_dense_115 : decode cX11_dense 115 = .ok (.iconst 1, 1) := kq.at kqdX11_dense_86 17 rfl
theorem dX11_dense_116 : decode cX11_dense 116 = .ok (.iadd, 1) := kq.at kqdX11_dense_86 18 rfl
theorem dX11_dense_117 : decode cX11_dense 117 = .ok (.iload_n 1, 1) := kq.at kqdX11_dense_86 19 rfl
theorem dX11_dense_118 : decode cX11_dense 118 = .ok (.if_icmp .lt 9, 3) := kq.at kqdX11_dense_86 20 rfl
theorem dX11_dense_121 : decode cX11_dense 121 = .ok (.iload_n 2, 1) := kq.at kqdX11_dense_86 21 rfl
theorem dX11_dense_122 : decode cX11_dense 122 = .ok (.iload_n 3, 1) := kq.at kqdX11_dense_86 22 rfl
theorem dX11_dense_123 : decode cX11_dense 123 = .ok (.invokestatic 345, 3) := kq.at kqdX11_dense_86 23 rfl
theorem kqdX11_dense_126 : kq cX11_dense [(126, .istore_n 2, 1), (127, .iinc 4 1, 3), (130, .goto (-73), 3), (133, .aload_n 0, 1), (134, .iload_n 2, 1), (135, .invokevirtual 191, 3), (138, .ireturn, 1)] = true := by decide +kernel
theorem dX11_dense_126 : decode cX11_dense 126 = .ok (.istore_n 2, 1) := kq.at kqdX11_dense_126 0 rfl
theorem dX11_dense_127 : decode cX11_dense 127 = .ok (.iinc 4 1, 3) := kq.at kqdX11_dense_126 1 rfl
theorem dX11_dense_130 : decode cX11_dense 130 = .ok (.goto (-73), 3) := kq.at kqdX11_dense_126 2 rfl
theorem dX11_dense_133 : decode cX11_dense 133 = .ok (.aload_n 0, 1) := kq.at kqdX11_dense_126 3 rfl
theorem dX11_dense_134 : decode cX11_dense 134 = .ok (.iload_n 2, 1) := kq.at kqdX11_dense_126 4 rfl
theorem dX11_dense_135 : decode cX11_dense 135 = .ok (.invokevirtual 191, 3) := kq.at kqdX11_dense_126 5 rfl
theorem dX11_dense_138 : decode cX11_dense 138 = .ok (.ireturn, 1) := kq.at kqdX11_dense_126 6 rfl
theorem kqdX11_alike_0 : kq cX11_alike [(0, .aload_n 0, 1), (1, .iload_n 1, 1), (2, .invokevirtual 333, 3), (5, .ifCond .eq 11, 3), (8, .aload_n 0, 1), (9, .iload_n 2, 1), (10, .invokevirtual 333, 3), (13, .ifCond .ne 10, 3), (16, .aload_n 0, 1), (17, .bipush 6, 2), (19, .invokevirtual 188, 3), (22, .ireturn, 1), (23, .iconst 0, 1), (24, .istore_n 3, 1), (25, .iconst 0, 1), (26, .istore 4, 2), (28, .iload 4, 2), (30, .aload_n 0, 1), (31, .getfield 47, 3), (34, .iload_n 1, 1), (35, .iaload, 1), (36, .if_icmp .ge 59, 3), (39, .iload 4, 2), (41, .aload_n 0, 1)] = true := by decide +kernel
theorem dX11_alike_0 : decode cX11_alike 0 = .ok (.aload_n 0, 1) := kq.at kqdX11_alike_0 0 rfl
theorem dX11_alike_1 : decode cX11_alike 1 = .ok (.iload_n 1, 1) := kq.at kqdX11_alike_0 1 rfl
theorem dX11_alike_2 : decode cX11_alike 2 = .ok (.invokevirtual 333, 3) := kq.at kqdX11_alike_0 2 rfl
theorem dX11_alike_5 : decode cX11_alike 5 = .ok (.ifCond .eq 11, 3) := kq.at kqdX11_alike_0 3 rfl
theorem dX11_alike_8 : decode cX11_alike 8 = .ok (.aload_n 0, 1) := kq.at kqdX11_alike_0 4 rfl
theorem dX11_alike_9 : decode cX11_alike 9 = .ok (.iload_n 2, 1) := kq.at kqdX11_alike_0 5 rfl
theorem dX11_alike_10 : decode cX11_alike 10 = .ok (.invokevirtual 333, 3) := kq.at kqdX11_alike_0 6 rfl
theorem dX11_alike_13 : decode cX11_alike 13 = .ok (.ifCond .ne 10, 3) := kq.at kqdX11_alike_0 7 rfl
theorem dX11_alike_16 : decode cX11_alike 16 = .ok (.aload_n 0, 1) := kq.at kqdX11_alike_0 8 rfl
theorem dX11_alike_17 : decode cX11_alike 17 = .ok (.bipush 6, 2) := kq.at kqdX11_alike_0 9 rfl
theorem dX11_alike_19 : decode cX11_alike 19 = .ok (.invokevirtual 188, 3) := kq.at kqdX11_alike_0 10 rfl
theorem dX11_alike_22 : decode cX11_alike 22 = .ok (.ireturn, 1) := kq.at kqdX11_alike_0 11 rfl
theorem dX11_alike_23 : decode cX11_alike 23 = .ok (.iconst 0, 1) := kq.at kqdX11_alike_0 12 rfl
theorem dX11_alike_24 : decode cX11_alike 24 = .ok (.istore_n 3, 1) := kq.at kqdX11_alike_0 13 rfl
theorem dX11_alike_25 : decode cX11_alike 25 = .ok (.iconst 0, 1) := kq.at kqdX11_alike_0 14 rfl
theorem dX11_alike_26 : decode cX11_alike 26 = .ok (.istore 4, 2) := kq.at kqdX11_alike_0 15 rfl
theorem dX11_alike_28 : decode cX11_alike 28 = .ok (.iload 4, 2) := kq.at kqdX11_alike_0 16 rfl
theorem dX11_alike_30 : decode cX11_alike 30 = .ok (.aload_n 0, 1) := kq.at kqdX11_alike_0 17 rfl
theorem dX11_alike_31 : decode cX11_alike 31 = .ok (.getfield 47, 3) := kq.at kqdX11_alike_0 18 rfl
theorem dX11_alike_34 : decode cX11_alike 34 = .ok (.iload_n 1, 1) := kq.at kqdX11_alike_0 19 rfl
theorem dX11_alike_35 : decode cX11_alike 35 = .ok (.iaload, 1) := kq.at kqdX11_alike_0 20 rfl
theorem dX11_alike_36 : decode cX11_alike 36 = .ok (.if_icmp .ge 59, 3) := kq.at kqdX11_alike_0 21 rfl
theorem dX11_alike_39 : decode cX11_alike 39 = .ok (.iload 4, 2) := kq.at kqdX11_alike_0 22 rfl
theorem dX11_alike_41 : decode cX11_alike 41 = .ok (.aload_n 0, 1) := kq.at kqdX11_alike_0 23 rfl
theorem kqdX11_alike_42 : kq cX11_alike [(42, .getfield 47, 3), (45, .iload_n 2, 1), (46, .iaload, 1), (47, .if_icmp .ge 48, 3), (50, .iload_n 3, 1), (51, .aload_n 0, 1), (52, .getfield 41, 3), (55, .aload_n 0, 1), (56, .getfield 44, 3), (59, .iload_n 1, 1), (60, .iaload, 1), (61, .iload 4, 2), (63, .iadd, 1), (64, .iaload, 1), (65, .aload_n 0, 1), (66, .getfield 41, 3), (69, .aload_n 0, 1), (70, .getfield 44, 3), (73, .iload_n 2, 1), (74, .iaload, 1), (75, .iload 4, 2), (77, .iadd, 1), (78, .iaload, 1), (79, .if_icmp .ne 7, 3)] = true := by decide +kernel
theorem dX11_alike_42 : decode cX11_alike 42 = .ok (.getfield 47, 3) := kq.at kqdX11_alike_42 0 rfl
theorem dX11_alike_45 : decode cX11_alike 45 = .ok (.iload_n 2, 1) := kq.at kqdX11_alike_42 1 rfl
theorem dX11_alike_46 : decode cX11_alike 46 = .ok (.iaload, 1) := kq.at kqdX11_alike_42 2 rfl
theorem dX11_alike_47 : decode cX11_alike 47 = .ok (.if_icmp .ge 48, 3) := kq.at kqdX11_alike_42 3 rfl
theorem dX11_alike_50 : decode cX11_alike 50 = .ok (.iload_n 3, 1) := kq.at kqdX11_alike_42 4 rfl
theorem dX11_alike_51 : decode cX11_alike 51 = .ok (.aload_n 0, 1) := kq.at kqdX11_alike_42 5 rfl
theorem dX11_alike_52 : decode cX11_alike 52 = .ok (.getfield 41, 3) := kq.at kqdX11_alike_42 6 rfl
theorem dX11_alike_55 : decode cX11_alike 55 = .ok (.aload_n 0, 1) := kq.at kqdX11_alike_42 7 rfl
theorem dX11_alike_56 : decode cX11_alike 56 = .ok (.getfield 44, 3) := kq.at kqdX11_alike_42 8 rfl
theorem dX11_alike_59 : decode cX11_alike 59 = .ok (.iload_n 1, 1) := kq.at kqdX11_alike_42 9 rfl
theorem dX11_alike_60 : decode cX11_alike 60 = .ok (.iaload, 1) := kq.at kqdX11_alike_42 10 rfl
theorem dX11_alike_61 : decode cX11_alike 61 = .ok (.iload 4, 2) := kq.at kqdX11_alike_42 11 rfl
theorem dX11_alike_63 : decode cX11_alike 63 = .ok (.iadd, 1) := kq.at kqdX11_alike_42 12 rfl
theorem dX11_alike_64 : decode cX11_alike 64 = .ok (.iaload, 1) := kq.at kqdX11_alike_42 13 rfl
theorem dX11_alike_65 : decode cX11_alike 65 = .ok (.aload_n 0, 1) := kq.at kqdX11_alike_42 14 rfl
theorem dX11_alike_66 : decode cX11_alike 66 = .ok (.getfield 41, 3) := kq.at kqdX11_alike_42 15 rfl
theorem dX11_alike_69 : decode cX11_alike 69 = .ok (.aload_n 0, 1) := kq.at kqdX11_alike_42 16 rfl
theorem dX11_alike_70 : decode cX11_alike 70 = .ok (.getfield 44, 3) := kq.at kqdX11_alike_42 17 rfl
theorem dX11_alike_73 : decode cX11_alike 73 = .ok (.iload_n 2, 1) := kq.at kqdX11_alike_42 18 rfl
theorem dX11_alike_74 : decode cX11_alike 74 = .ok (.iaload, 1) := kq.at kqdX11_alike_42 19 rfl
theorem dX11_alike_75 : decode cX11_alike 75 = .ok (.iload 4, 2) := kq.at kqdX11_alike_42 20 rfl
theorem dX11_alike_77 : decode cX11_alike 77 = .ok (.iadd, 1) := kq.at kqdX11_alike_42 21 rfl
theorem dX11_alike_78 : decode cX11_alike 78 = .ok (.iaload, 1) := kq.at kqdX11_alike_42 22 rfl
theorem dX11_alike_79 : decode cX11_alike 79 = .ok (.if_icmp .ne 7, 3) := kq.at kqdX11_alike_42 23 rfl
theorem kqdX11_alike_82 : kq cX11_alike [(82, .iconst 1, 1), (83, .goto 4, 3), (86, .iconst 0, 1), (87, .iadd, 1), (88, .istore_n 3, 1), (89, .iinc 4 1, 3), (92, .goto (-64), 3), (95, .aload_n 0, 1), (96, .iload_n 3, 1), (97, .invokevirtual 191, 3), (100, .ireturn, 1)] = true := by decide +kernel
theorem dX11_alike_82 : decode cX11_alike 82 = .ok (.iconst 1, 1) := kq.at kqdX11_alike_82 0 rfl
theorem dX11_alike_83 : decode cX11_alike 83 = .ok (.goto 4, 3) := kq.at kqdX11_alike_82 1 rfl
theorem dX11_alike_86 : decode cX11_alike 86 = .ok (.iconst 0, 1) := kq.at kqdX11_alike_82 2 rfl
theorem dX11_alike_87 : decode cX11_alike 87 = .ok (.iadd, 1) := kq.at kqdX11_alike_82 3 rfl
theorem dX11_alike_88 : decode cX11_alike 88 = .ok (.istore_n 3, 1) := kq.at kqdX11_alike_82 4 rfl
theorem dX11_alike_89 : decode cX11_alike 89 = .ok (.iinc 4 1, 3) := kq.at kqdX11_alike_82 5 rfl
theorem dX11_alike_92 : decode cX11_alike 92 = .ok (.goto (-64), 3) := kq.at kqdX11_alike_82 6 rfl
theorem dX11_alike_95 : decode cX11_alike 95 = .ok (.aload_n 0, 1) := kq.at kqdX11_alike_82 7 rfl
theorem dX11_alike_96 : decode cX11_alike 96 = .ok (.iload_n 3, 1) := kq.at kqdX11_alike_82 8 rfl
theorem dX11_alike_97 : decode cX11_alike 97 = .ok (.invokevirtual 191, 3) := kq.at kqdX11_alike_82 9 rfl
theorem dX11_alike_100 : decode cX11_alike 100 = .ok (.ireturn, 1) := kq.at kqdX11_alike_82 10 rfl
theorem kqdX11_longest_0 : kq cX11_longest [(0, .aload_n 0, 1), (1, .invokevirtual 306, 3), (4, .ifCond .eq 13, 3), (7, .aload_n 0, 1), (8, .getfield 7, 3), (11, .bipush 9, 2), (13, .iaload, 1), (14, .ifCond .ne 10, 3), (17, .aload_n 0, 1), (18, .bipush 6, 2), (20, .invokevirtual 188, 3), (23, .ireturn, 1), (24, .iconst 0, 1), (25, .istore_n 1, 1), (26, .iconst 1, 1), (27, .istore_n 2, 1), (28, .iload_n 2, 1), (29, .aload_n 0, 1), (30, .getfield 7, 3), (33, .bipush 9, 2), (35, .iaload, 1), (36, .if_icmp .ge 24, 3), (39, .aload_n 0, 1), (40, .iload_n 2, 1)] = true := by decide +kernel
theorem dX11_longest_0 : decode cX11_longest 0 = .ok (.aload_n 0, 1) := kq.at kqdX11_longest_0 0 rfl
theorem dX11_longest_1 : decode cX11_longest 1 = .ok (.invokevirtual 306, 3) := kq.at kqdX11_longest_0 1 rfl
theorem dX11_longest_4 : decode cX11_longest 4 = .ok (.ifCond .eq 13, 3) := kq.at kqdX11_longest_0 2 rfl
theorem dX11_longest_7 : decode cX11_longest 7 = .ok (.aload_n 0, 1) := kq.at kqdX11_longest_0 3 rfl
theorem dX11_longest_8 : decode cX11_longest 8 = .ok (.getfield 7, 3) := kq.at kqdX11_longest_0 4 rfl
theorem dX11_longest_11 : decode cX11_longest 11 = .ok (.bipush 9, 2) := kq.at kqdX11_longest_0 5 rfl
theorem dX11_longest_13 : decode cX11_longest 13 = .ok (.iaload, 1) := kq.at kqdX11_longest_0 6 rfl
theorem dX11_longest_14 : decode cX11_longest 14 = .ok (.ifCond .ne 10, 3) := kq.at kqdX11_longest_0 7 rfl
theorem dX11_longest_17 : decode cX11_longest 17 = .ok (.aload_n 0, 1) := kq.at kqdX11_longest_0 8 rfl
theorem dX11_longest_18 : decode cX11_longest 18 = .ok (.bipush 6, 2) := kq.at kqdX11_longest_0 9 rfl
theorem dX11_longest_20 : decode cX11_longest 20 = .ok (.invokevirtual 188, 3) := kq.at kqdX11_longest_0 10 rfl
theorem dX11_longest_23 : decode cX11_longest 23 = .ok (.ireturn, 1) := kq.at kqdX11_longest_0 11 rfl
theorem dX11_longest_24 : decode cX11_longest 24 = .ok (.iconst 0, 1) := kq.at kqdX11_longest_0 12 rfl
theorem dX11_longest_25 : decode cX11_longest 25 = .ok (.istore_n 1, 1) := kq.at kqdX11_longest_0 13 rfl
theorem dX11_longest_26 : decode cX11_longest 26 = .ok (.iconst 1, 1) := kq.at kqdX11_longest_0 14 rfl
theorem dX11_longest_27 : decode cX11_longest 27 = .ok (.istore_n 2, 1) := kq.at kqdX11_longest_0 15 rfl
theorem dX11_longest_28 : decode cX11_longest 28 = .ok (.iload_n 2, 1) := kq.at kqdX11_longest_0 16 rfl
theorem dX11_longest_29 : decode cX11_longest 29 = .ok (.aload_n 0, 1) := kq.at kqdX11_longest_0 17 rfl
theorem dX11_longest_30 : decode cX11_longest 30 = .ok (.getfield 7, 3) := kq.at kqdX11_longest_0 18 rfl
theorem dX11_longest_33 : decode cX11_longest 33 = .ok (.bipush 9, 2) := kq.at kqdX11_longest_0 19 rfl
theorem dX11_longest_35 : decode cX11_longest 35 = .ok (.iaload, 1) := kq.at kqdX11_longest_0 20 rfl
theorem dX11_longest_36 : decode cX11_longest 36 = .ok (.if_icmp .ge 24, 3) := kq.at kqdX11_longest_0 21 rfl
theorem dX11_longest_39 : decode cX11_longest 39 = .ok (.aload_n 0, 1) := kq.at kqdX11_longest_0 22 rfl
theorem dX11_longest_40 : decode cX11_longest 40 = .ok (.iload_n 2, 1) := kq.at kqdX11_longest_0 23 rfl
theorem kqdX11_longest_41 : kq cX11_longest [(41, .invokevirtual 321, 3), (44, .aload_n 0, 1), (45, .iload_n 1, 1), (46, .invokevirtual 321, 3), (49, .if_icmp .le 5, 3), (52, .iload_n 2, 1), (53, .istore_n 1, 1), (54, .iinc 2 1, 3), (57, .goto (-29), 3), (60, .aload_n 0, 1), (61, .iload_n 1, 1), (62, .invokevirtual 191, 3), (65, .ireturn, 1)] = true := by decide +kernel
theorem dX11_longest_41 : decode cX11_longest 41 = .ok (.invokevirtual 321, 3) := kq.at kqdX11_longest_41 0 rfl
theorem dX11_longest_44 : decode cX11_longest 44 = .ok (.aload_n 0, 1) := kq.at kqdX11_longest_41 1 rfl
theorem dX11_longest_45 : decode cX11_longest 45 = .ok (.iload_n 1, 1) := kq.at kqdX11_longest_41 2 rfl
theorem dX11_longest_46 : decode cX11_longest 46 = .ok (.invokevirtual 321, 3) := kq.at kqdX11_longest_41 3 rfl
theorem dX11_longest_49 : decode cX11_longest 49 = .ok (.if_icmp .le 5, 3) := kq.at kqdX11_longest_41 4 rfl
theorem dX11_longest_52 : decode cX11_longest 52 = .ok (.iload_n 2, 1) := kq.at kqdX11_longest_41 5 rfl
theorem dX11_longest_53 : decode cX11_longest 53 = .ok (.istore_n 1, 1) := kq.at kqdX11_longest_41 6 rfl
theorem dX11_longest_54 : decode cX11_longest 54 = .ok (.iinc 2 1, 3) := kq.at kqdX11_longest_41 7 rfl
theorem dX11_longest_57 : decode cX11_longest 57 = .ok (.goto (-29), 3) := kq.at kqdX11_longest_41 8 rfl
theorem dX11_longest_60 : decode cX11_longest 60 = .ok (.aload_n 0, 1) := kq.at kqdX11_longest_41 9 rfl
theorem dX11_longest_61 : decode cX11_longest 61 = .ok (.iload_n 1, 1) := kq.at kqdX11_longest_41 10 rfl
theorem dX11_longest_62 : decode cX11_longest 62 = .ok (.invokevirtual 191, 3) := kq.at kqdX11_longest_41 11 rfl
theorem dX11_longest_65 : decode cX11_longest 65 = .ok (.ireturn, 1) := kq.at kqdX11_longest_41 12 rfl
theorem kqdX11_inLine_0 : kq cX11_inLine [(0, .aload_n 0, 1), (1, .iload_n 1, 1), (2, .invokevirtual 333, 3), (5, .ifCond .ne 10, 3), (8, .aload_n 0, 1), (9, .bipush 6, 2), (11, .invokevirtual 188, 3), (14, .ireturn, 1), (15, .iconst 0, 1), (16, .istore_n 2, 1), (17, .iconst 0, 1), (18, .istore_n 3, 1), (19, .iload_n 3, 1), (20, .aload_n 0, 1), (21, .getfield 7, 3), (24, .bipush 9, 2), (26, .iaload, 1), (27, .if_icmp .ge 37, 3), (30, .iload_n 2, 1), (31, .aload_n 0, 1), (32, .getfield 50, 3), (35, .iload_n 3, 1), (36, .iaload, 1), (37, .iload_n 1, 1)] = true := by decide +kernel
theorem dX11_inLine_0 : decode cX11_inLine 0 = .ok (.aload_n 0, 1) := kq.at kqdX11_inLine_0 0 rfl
theorem dX11_inLine_1 : decode cX11_inLine 1 = .ok (.iload_n 1, 1) := kq.at kqdX11_inLine_0 1 rfl
theorem dX11_inLine_2 : decode cX11_inLine 2 = .ok (.invokevirtual 333, 3) := kq.at kqdX11_inLine_0 2 rfl
theorem dX11_inLine_5 : decode cX11_inLine 5 = .ok (.ifCond .ne 10, 3) := kq.at kqdX11_inLine_0 3 rfl
theorem dX11_inLine_8 : decode cX11_inLine 8 = .ok (.aload_n 0, 1) := kq.at kqdX11_inLine_0 4 rfl
theorem dX11_inLine_9 : decode cX11_inLine 9 = .ok (.bipush 6, 2) := kq.at kqdX11_inLine_0 5 rfl
theorem dX11_inLine_11 : decode cX11_inLine 11 = .ok (.invokevirtual 188, 3) := kq.at kqdX11_inLine_0 6 rfl
theorem dX11_inLine_14 : decode cX11_inLine 14 = .ok (.ireturn, 1) := kq.at kqdX11_inLine_0 7 rfl
theorem dX11_inLine_15 : decode cX11_inLine 15 = .ok (.iconst 0, 1) := kq.at kqdX11_inLine_0 8 rfl
theorem dX11_inLine_16 : decode cX11_inLine 16 = .ok (.istore_n 2, 1) := kq.at kqdX11_inLine_0 9 rfl
theorem dX11_inLine_17 : decode cX11_inLine 17 = .ok (.iconst 0, 1) := kq.at kqdX11_inLine_0 10 rfl
theorem dX11_inLine_18 : decode cX11_inLine 18 = .ok (.istore_n 3, 1) := kq.at kqdX11_inLine_0 11 rfl
theorem dX11_inLine_19 : decode cX11_inLine 19 = .ok (.iload_n 3, 1) := kq.at kqdX11_inLine_0 12 rfl
theorem dX11_inLine_20 : decode cX11_inLine 20 = .ok (.aload_n 0, 1) := kq.at kqdX11_inLine_0 13 rfl
theorem dX11_inLine_21 : decode cX11_inLine 21 = .ok (.getfield 7, 3) := kq.at kqdX11_inLine_0 14 rfl
theorem dX11_inLine_24 : decode cX11_inLine 24 = .ok (.bipush 9, 2) := kq.at kqdX11_inLine_0 15 rfl
theorem dX11_inLine_26 : decode cX11_inLine 26 = .ok (.iaload, 1) := kq.at kqdX11_inLine_0 16 rfl
theorem dX11_inLine_27 : decode cX11_inLine 27 = .ok (.if_icmp .ge 37, 3) := kq.at kqdX11_inLine_0 17 rfl
theorem dX11_inLine_30 : decode cX11_inLine 30 = .ok (.iload_n 2, 1) := kq.at kqdX11_inLine_0 18 rfl
theorem dX11_inLine_31 : decode cX11_inLine 31 = .ok (.aload_n 0, 1) := kq.at kqdX11_inLine_0 19 rfl
theorem dX11_inLine_32 : decode cX11_inLine 32 = .ok (.getfield 50, 3) := kq.at kqdX11_inLine_0 20 rfl
theorem dX11_inLine_35 : decode cX11_inLine 35 = .ok (.iload_n 3, 1) := kq.at kqdX11_inLine_0 21 rfl
theorem dX11_inLine_36 : decode cX11_inLine 36 = .ok (.iaload, 1) := kq.at kqdX11_inLine_0 22 rfl
theorem dX11_inLine_37 : decode cX11_inLine 37 = .ok (.iload_n 1, 1) := kq.at kqdX11_inLine_0 23 rfl
theorem kqdX11_inLine_38 : kq cX11_inLine [(38, .if_icmp .gt 17, 3), (41, .aload_n 0, 1), (42, .getfield 53, 3), (45, .iload_n 3, 1), (46, .iaload, 1), (47, .iload_n 1, 1), (48, .if_icmp .lt 7, 3), (51, .iconst 1, 1), (52, .goto 4, 3), (55, .iconst 0, 1), (56, .iadd, 1), (57, .istore_n 2, 1), (58, .iinc 3 1, 3), (61, .goto (-42), 3), (64, .aload_n 0, 1), (65, .iload_n 2, 1), (66, .invokevirtual 191, 3), (69, .ireturn, 1)] = true := by decide +kernel
theorem dX11_inLine_38 : decode cX11_inLine 38 = .ok (.if_icmp .gt 17, 3) := kq.at kqdX11_inLine_38 0 rfl
theorem dX11_inLine_41 : decode cX11_inLine 41 = .ok (.aload_n 0, 1) := kq.at kqdX11_inLine_38 1 rfl
theorem dX11_inLine_42 : decode cX11_inLine 42 = .ok (.getfield 53, 3) := kq.at kqdX11_inLine_38 2 rfl
theorem dX11_inLine_45 : decode cX11_inLine 45 = .ok (.iload_n 3, 1) := kq.at kqdX11_inLine_38 3 rfl
theorem dX11_inLine_46 : decode cX11_inLine 46 = .ok (.iaload, 1) := kq.at kqdX11_inLine_38 4 rfl
theorem dX11_inLine_47 : decode cX11_inLine 47 = .ok (.iload_n 1, 1) := kq.at kqdX11_inLine_38 5 rfl
theorem dX11_inLine_48 : decode cX11_inLine 48 = .ok (.if_icmp .lt 7, 3) := kq.at kqdX11_inLine_38 6 rfl
theorem dX11_inLine_51 : decode cX11_inLine 51 = .ok (.iconst 1, 1) := kq.at kqdX11_inLine_38 7 rfl
theorem dX11_inLine_52 : decode cX11_inLine 52 = .ok (.goto 4, 3) := kq.at kqdX11_inLine_38 8 rfl
theorem dX11_inLine_55 : decode cX11_inLine 55 = .ok (.iconst 0, 1) := kq.at kqdX11_inLine_38 9 rfl
theorem dX11_inLine_56 : decode cX11_inLine 56 = .ok (.iadd, 1) := kq.at kqdX11_inLine_38 10 rfl
theorem dX11_inLine_57 : decode cX11_inLine 57 = .ok (.istore_n 2, 1) := kq.at kqdX11_inLine_38 11 rfl
theorem dX11_inLine_58 : decode cX11_inLine 58 = .ok (.iinc 3 1, 3) := kq.at kqdX11_inLine_38 12 rfl
theorem dX11_inLine_61 : decode cX11_inLine 61 = .ok (.goto (-42), 3) := kq.at kqdX11_inLine_38 13 rfl
theorem dX11_inLine_64 : decode cX11_inLine 64 = .ok (.aload_n 0, 1) := kq.at kqdX11_inLine_38 14 rfl
theorem dX11_inLine_65 : decode cX11_inLine 65 = .ok (.iload_n 2, 1) := kq.at kqdX11_inLine_38 15 rfl
theorem dX11_inLine_66 : decode cX11_inLine 66 = .ok (.invokevirtual 191, 3) := kq.at kqdX11_inLine_38 16 rfl
theorem dX11_inLine_69 : decode cX11_inLine 69 = .ok (.ireturn, 1) := kq.at kqdX11_inLine_38 17 rfl
theorem kqdX11_covers_0 : kq cX11_covers [(0, .aload_n 0, 1), (1, .iload_n 1, 1), (2, .invokevirtual 297, 3), (5, .ifCond .ne 9, 3), (8, .aload_n 0, 1), (9, .iconst 1, 1), (10, .invokevirtual 188, 3), (13, .ireturn, 1), (14, .aload_n 0, 1), (15, .invokevirtual 306, 3), (18, .ifCond .ne 10, 3), (21, .aload_n 0, 1), (22, .bipush 6, 2), (24, .invokevirtual 188, 3), (27, .ireturn, 1), (28, .aload_n 0, 1), (29, .invokevirtual 309, 3), (32, .iconst 0, 1), (33, .istore_n 2, 1), (34, .iconst (-1), 1), (35, .istore_n 3, 1), (36, .iconst 0, 1), (37, .istore 4, 2), (39, .iload 4, 2)] = true := by decide +kernel
theorem dX11_covers_0 : decode cX11_covers 0 = .ok (.aload_n 0, 1) := kq.at kqdX11_covers_0 0 rfl
theorem dX11_covers_1 : decode cX11_covers 1 = .ok (.iload_n 1, 1) := kq.at kqdX11_covers_0 1 rfl
theorem dX11_covers_2 : decode cX11_covers 2 = .ok (.invokevirtual 297, 3) := kq.at kqdX11_covers_0 2 rfl
theorem dX11_covers_5 : decode cX11_covers 5 = .ok (.ifCond .ne 9, 3) := kq.at kqdX11_covers_0 3 rfl
theorem dX11_covers_8 : decode cX11_covers 8 = .ok (.aload_n 0, 1) := kq.at kqdX11_covers_0 4 rfl
theorem dX11_covers_9 : decode cX11_covers 9 = .ok (.iconst 1, 1) := kq.at kqdX11_covers_0 5 rfl
theorem dX11_covers_10 : decode cX11_covers 10 = .ok (.invokevirtual 188, 3) := kq.at kqdX11_covers_0 6 rfl
theorem dX11_covers_13 : decode cX11_covers 13 = .ok (.ireturn, 1) := kq.at kqdX11_covers_0 7 rfl
theorem dX11_covers_14 : decode cX11_covers 14 = .ok (.aload_n 0, 1) := kq.at kqdX11_covers_0 8 rfl
theorem dX11_covers_15 : decode cX11_covers 15 = .ok (.invokevirtual 306, 3) := kq.at kqdX11_covers_0 9 rfl
theorem dX11_covers_18 : decode cX11_covers 18 = .ok (.ifCond .ne 10, 3) := kq.at kqdX11_covers_0 10 rfl
theorem dX11_covers_21 : decode cX11_covers 21 = .ok (.aload_n 0, 1) := kq.at kqdX11_covers_0 11 rfl
theorem dX11_covers_22 : decode cX11_covers 22 = .ok (.bipush 6, 2) := kq.at kqdX11_covers_0 12 rfl
theorem dX11_covers_24 : decode cX11_covers 24 = .ok (.invokevirtual 188, 3) := kq.at kqdX11_covers_0 13 rfl
theorem dX11_covers_27 : decode cX11_covers 27 = .ok (.ireturn, 1) := kq.at kqdX11_covers_0 14 rfl
theorem dX11_covers_28 : decode cX11_covers 28 = .ok (.aload_n 0, 1) := kq.at kqdX11_covers_0 15 rfl
theorem dX11_covers_29 : decode cX11_covers 29 = .ok (.invokevirtual 309, 3) := kq.at kqdX11_covers_0 16 rfl
theorem dX11_covers_32 : decode cX11_covers 32 = .ok (.iconst 0, 1) := kq.at kqdX11_covers_0 17 rfl
theorem dX11_covers_33 : decode cX11_covers 33 = .ok (.istore_n 2, 1) := kq.at kqdX11_covers_0 18 rfl
theorem dX11_covers_34 : decode cX11_covers 34 = .ok (.iconst (-1), 1) := kq.at kqdX11_covers_0 19 rfl
theorem dX11_covers_35 : decode cX11_covers 35 = .ok (.istore_n 3, 1) := kq.at kqdX11_covers_0 20 rfl
theorem dX11_covers_36 : decode cX11_covers 36 = .ok (.iconst 0, 1) := kq.at kqdX11_covers_0 21 rfl
theorem dX11_covers_37 : decode cX11_covers 37 = .ok (.istore 4, 2) := kq.at kqdX11_covers_0 22 rfl
theorem dX11_covers_39 : decode cX11_covers 39 = .ok (.iload 4, 2) := kq.at kqdX11_covers_0 23 rfl
theorem kqdX11_covers_41 : kq cX11_covers [(41, .aload_n 0, 1), (42, .getfield 7, 3), (45, .bipush 7, 2), (47, .iaload, 1), (48, .if_icmp .ge 73, 3), (51, .aload_n 0, 1), (52, .iload 4, 2), (54, .invokevirtual 239, 3), (57, .invokestatic 260, 3), (60, .ifCond .ne 8, 3), (63, .iconst (-1), 1), (64, .istore_n 3, 1), (65, .goto 50, 3), (68, .iload_n 3, 1), (69, .iconst (-1), 1), (70, .if_icmp .ne 6, 3), (73, .iload 4, 2), (75, .istore_n 3, 1), (76, .iload_n 2, 1), (77, .aload_n 0, 1), (78, .getfield 7, 3), (81, .bipush 6, 2), (83, .iaload, 1), (84, .iload_n 1, 1)] = true := by decide +kernel
theorem dX11_covers_41 : decode cX11_covers 41 = .ok (.aload_n 0, 1) := kq.at kqdX11_covers_41 0 rfl
theorem dX11_covers_42 : decode cX11_covers 42 = .ok (.getfield 7, 3) := kq.at kqdX11_covers_41 1 rfl
theorem dX11_covers_45 : decode cX11_covers 45 = .ok (.bipush 7, 2) := kq.at kqdX11_covers_41 2 rfl
theorem dX11_covers_47 : decode cX11_covers 47 = .ok (.iaload, 1) := kq.at kqdX11_covers_41 3 rfl
theorem dX11_covers_48 : decode cX11_covers 48 = .ok (.if_icmp .ge 73, 3) := kq.at kqdX11_covers_41 4 rfl
theorem dX11_covers_51 : decode cX11_covers 51 = .ok (.aload_n 0, 1) := kq.at kqdX11_covers_41 5 rfl
theorem dX11_covers_52 : decode cX11_covers 52 = .ok (.iload 4, 2) := kq.at kqdX11_covers_41 6 rfl
theorem dX11_covers_54 : decode cX11_covers 54 = .ok (.invokevirtual 239, 3) := kq.at kqdX11_covers_41 7 rfl
theorem dX11_covers_57 : decode cX11_covers 57 = .ok (.invokestatic 260, 3) := kq.at kqdX11_covers_41 8 rfl
theorem dX11_covers_60 : decode cX11_covers 60 = .ok (.ifCond .ne 8, 3) := kq.at kqdX11_covers_41 9 rfl
theorem dX11_covers_63 : decode cX11_covers 63 = .ok (.iconst (-1), 1) := kq.at kqdX11_covers_41 10 rfl
theorem dX11_covers_64 : decode cX11_covers 64 = .ok (.istore_n 3, 1) := kq.at kqdX11_covers_41 11 rfl
theorem dX11_covers_65 : decode cX11_covers 65 = .ok (.goto 50, 3) := kq.at kqdX11_covers_41 12 rfl
theorem dX11_covers_68 : decode cX11_covers 68 = .ok (.iload_n 3, 1) := kq.at kqdX11_covers_41 13 rfl
theorem dX11_covers_69 : decode cX11_covers 69 = .ok (.iconst (-1), 1) := kq.at kqdX11_covers_41 14 rfl
theorem dX11_covers_70 : decode cX11_covers 70 = .ok (.if_icmp .ne 6, 3) := kq.at kqdX11_covers_41 15 rfl
theorem dX11_covers_73 : decode cX11_covers 73 = .ok (.iload 4, 2) := kq.at kqdX11_covers_41 16 rfl
theorem dX11_covers_75 : decode cX11_covers 75 = .ok (.istore_n 3, 1) := kq.at kqdX11_covers_41 17 rfl
theorem dX11_covers_76 : decode cX11_covers 76 = .ok (.iload_n 2, 1) := kq.at kqdX11_covers_41 18 rfl
theorem dX11_covers_77 : decode cX11_covers 77 = .ok (.aload_n 0, 1) := kq.at kqdX11_covers_41 19 rfl
theorem dX11_covers_78 : decode cX11_covers 78 = .ok (.getfield 7, 3) := kq.at kqdX11_covers_41 20 rfl
theorem dX11_covers_81 : decode cX11_covers 81 = .ok (.bipush 6, 2) := kq.at kqdX11_covers_41 21 rfl
theorem dX11_covers_83 : decode cX11_covers 83 = .ok (.iaload, 1) := kq.at kqdX11_covers_41 22 rfl
theorem dX11_covers_84 : decode cX11_covers 84 = .ok (.iload_n 1, 1) := kq.at kqdX11_covers_41 23 rfl
theorem kqdX11_covers_85 : kq cX11_covers [(85, .invokestatic 249, 3), (88, .ifCond .ne 24, 3), (91, .aload_n 0, 1), (92, .iload_n 1, 1), (93, .iload 4, 2), (95, .iload_n 3, 1), (96, .aload_n 0, 1), (97, .iload 4, 2), (99, .invokevirtual 279, 3), (102, .invokevirtual 252, 3), (105, .ifCond .eq 7, 3), (108, .iconst 1, 1), (109, .goto 4, 3), (112, .iconst 0, 1), (113, .iadd, 1), (114, .istore_n 2, 1), (115, .iinc 4 1, 3), (118, .goto (-79), 3), (121, .aload_n 0, 1), (122, .iload_n 2, 1), (123, .invokevirtual 191, 3), (126, .ireturn, 1)] = true := by decide +kernel
theorem dX11_covers_85 : decode cX11_covers 85 = .ok (.invokestatic 249, 3) := kq.at kqdX11_covers_85 0 rfl
theorem dX11_covers_88 : decode cX11_covers 88 = .ok (.ifCond .ne 24, 3) := kq.at kqdX11_covers_85 1 rfl
theorem dX11_covers_91 : decode cX11_covers 91 = .ok (.aload_n 0, 1) := kq.at kqdX11_covers_85 2 rfl
theorem dX11_covers_92 : decode cX11_covers 92 = .ok (.iload_n 1, 1) := kq.at kqdX11_covers_85 3 rfl
theorem dX11_covers_93 : decode cX11_covers 93 = .ok (.iload 4, 2) := kq.at kqdX11_covers_85 4 rfl
theorem dX11_covers_95 : decode cX11_covers 95 = .ok (.iload_n 3, 1) := kq.at kqdX11_covers_85 5 rfl
theorem dX11_covers_96 : decode cX11_covers 96 = .ok (.aload_n 0, 1) := kq.at kqdX11_covers_85 6 rfl
theorem dX11_covers_97 : decode cX11_covers 97 = .ok (.iload 4, 2) := kq.at kqdX11_covers_85 7 rfl
theorem dX11_covers_99 : decode cX11_covers 99 = .ok (.invokevirtual 279, 3) := kq.at kqdX11_covers_85 8 rfl
theorem dX11_covers_102 : decode cX11_covers 102 = .ok (.invokevirtual 252, 3) := kq.at kqdX11_covers_85 9 rfl
theorem dX11_covers_105 : decode cX11_covers 105 = .ok (.ifCond .eq 7, 3) := kq.at kqdX11_covers_85 10 rfl
theorem dX11_covers_108 : decode cX11_covers 108 = .ok (.iconst 1, 1) := kq.at kqdX11_covers_85 11 rfl
theorem dX11_covers_109 : decode cX11_covers 109 = .ok (.goto 4, 3) := kq.at kqdX11_covers_85 12 rfl
theorem dX11_covers_112 : decode cX11_covers 112 = .ok (.iconst 0, 1) := kq.at kqdX11_covers_85 13 rfl
theorem dX11_covers_113 : decode cX11_covers 113 = .ok (.iadd, 1) := kq.at kqdX11_covers_85 14 rfl
theorem dX11_covers_114 : decode cX11_covers 114 = .ok (.istore_n 2, 1) := kq.at kqdX11_covers_85 15 rfl
theorem dX11_covers_115 : decode cX11_covers 115 = .ok (.iinc 4 1, 3) := kq.at kqdX11_covers_85 16 rfl
theorem dX11_covers_118 : decode cX11_covers 118 = .ok (.goto (-79), 3) := kq.at kqdX11_covers_85 17 rfl
theorem dX11_covers_121 : decode cX11_covers 121 = .ok (.aload_n 0, 1) := kq.at kqdX11_covers_85 18 rfl
theorem dX11_covers_122 : decode cX11_covers 122 = .ok (.iload_n 2, 1) := kq.at kqdX11_covers_85 19 rfl
theorem dX11_covers_123 : decode cX11_covers 123 = .ok (.invokevirtual 191, 3) := kq.at kqdX11_covers_85 20 rfl
theorem dX11_covers_126 : decode cX11_covers 126 = .ok (.ireturn, 1) := kq.at kqdX11_covers_85 21 rfl
theorem kqdX11_oftenOf_0 : kq cX11_oftenOf [(0, .iconst 0, 1), (1, .istore_n 2, 1), (2, .iconst 0, 1), (3, .istore_n 3, 1), (4, .iload_n 3, 1), (5, .aload_n 0, 1), (6, .getfield 7, 3), (9, .bipush 8, 2), (11, .iaload, 1), (12, .if_icmp .ge 31, 3), (15, .iload_n 2, 1), (16, .aload_n 0, 1), (17, .getfield 7, 3), (20, .sipush 600, 3), (23, .iload_n 3, 1), (24, .iadd, 1), (25, .iaload, 1), (26, .iload_n 1, 1), (27, .if_icmp .ne 7, 3), (30, .iconst 1, 1), (31, .goto 4, 3), (34, .iconst 0, 1), (35, .iadd, 1), (36, .istore_n 2, 1)] = true := by decide +kernel
theorem dX11_oftenOf_0 : decode cX11_oftenOf 0 = .ok (.iconst 0, 1) := kq.at kqdX11_oftenOf_0 0 rfl
theorem dX11_oftenOf_1 : decode cX11_oftenOf 1 = .ok (.istore_n 2, 1) := kq.at kqdX11_oftenOf_0 1 rfl
theorem dX11_oftenOf_2 : decode cX11_oftenOf 2 = .ok (.iconst 0, 1) := kq.at kqdX11_oftenOf_0 2 rfl
theorem dX11_oftenOf_3 : decode cX11_oftenOf 3 = .ok (.istore_n 3, 1) := kq.at kqdX11_oftenOf_0 3 rfl
theorem dX11_oftenOf_4 : decode cX11_oftenOf 4 = .ok (.iload_n 3, 1) := kq.at kqdX11_oftenOf_0 4 rfl
theorem dX11_oftenOf_5 : decode cX11_oftenOf 5 = .ok (.aload_n 0, 1) := kq.at kqdX11_oftenOf_0 5 rfl
theorem dX11_oftenOf_6 : decode cX11_oftenOf 6 = .ok (.getfield 7, 3) := kq.at kqdX11_oftenOf_0 6 rfl
theorem dX11_oftenOf_9 : decode cX11_oftenOf 9 = .ok (.bipush 8, 2) := kq.at kqdX11_oftenOf_0 7 rfl
theorem dX11_oftenOf_11 : decode cX11_oftenOf 11 = .ok (.iaload, 1) := kq.at kqdX11_oftenOf_0 8 rfl
theorem dX11_oftenOf_12 : decode cX11_oftenOf 12 = .ok (.if_icmp .ge 31, 3) := kq.at kqdX11_oftenOf_0 9 rfl
theorem dX11_oftenOf_15 : decode cX11_oftenOf 15 = .ok (.iload_n 2, 1) := kq.at kqdX11_oftenOf_0 10 rfl
theorem dX11_oftenOf_16 : decode cX11_oftenOf 16 = .ok (.aload_n 0, 1) := kq.at kqdX11_oftenOf_0 11 rfl
theorem dX11_oftenOf_17 : decode cX11_oftenOf 17 = .ok (.getfield 7, 3) := kq.at kqdX11_oftenOf_0 12 rfl
theorem dX11_oftenOf_20 : decode cX11_oftenOf 20 = .ok (.sipush 600, 3) := kq.at kqdX11_oftenOf_0 13 rfl
theorem dX11_oftenOf_23 : decode cX11_oftenOf 23 = .ok (.iload_n 3, 1) := kq.at kqdX11_oftenOf_0 14 rfl
theorem dX11_oftenOf_24 : decode cX11_oftenOf 24 = .ok (.iadd, 1) := kq.at kqdX11_oftenOf_0 15 rfl
theorem dX11_oftenOf_25 : decode cX11_oftenOf 25 = .ok (.iaload, 1) := kq.at kqdX11_oftenOf_0 16 rfl
theorem dX11_oftenOf_26 : decode cX11_oftenOf 26 = .ok (.iload_n 1, 1) := kq.at kqdX11_oftenOf_0 17 rfl
theorem dX11_oftenOf_27 : decode cX11_oftenOf 27 = .ok (.if_icmp .ne 7, 3) := kq.at kqdX11_oftenOf_0 18 rfl
theorem dX11_oftenOf_30 : decode cX11_oftenOf 30 = .ok (.iconst 1, 1) := kq.at kqdX11_oftenOf_0 19 rfl
theorem dX11_oftenOf_31 : decode cX11_oftenOf 31 = .ok (.goto 4, 3) := kq.at kqdX11_oftenOf_0 20 rfl
theorem dX11_oftenOf_34 : decode cX11_oftenOf 34 = .ok (.iconst 0, 1) := kq.at kqdX11_oftenOf_0 21 rfl
theorem dX11_oftenOf_35 : decode cX11_oftenOf 35 = .ok (.iadd, 1) := kq.at kqdX11_oftenOf_0 22 rfl
theorem dX11_oftenOf_36 : decode cX11_oftenOf 36 = .ok (.istore_n 2, 1) := kq.at kqdX11_oftenOf_0 23 rfl
theorem kqdX11_oftenOf_37 : kq cX11_oftenOf [(37, .iinc 3 1, 3), (40, .goto (-36), 3), (43, .iload_n 2, 1), (44, .ireturn, 1)] = true := by decide +kernel
theorem dX11_oftenOf_37 : decode cX11_oftenOf 37 = .ok (.iinc 3 1, 3) := kq.at kqdX11_oftenOf_37 0 rfl
theorem dX11_oftenOf_40 : decode cX11_oftenOf 40 = .ok (.goto (-36), 3) := kq.at kqdX11_oftenOf_37 1 rfl
theorem dX11_oftenOf_43 : decode cX11_oftenOf 43 = .ok (.iload_n 2, 1) := kq.at kqdX11_oftenOf_37 2 rfl
theorem dX11_oftenOf_44 : decode cX11_oftenOf 44 = .ok (.ireturn, 1) := kq.at kqdX11_oftenOf_37 3 rfl
theorem kqdX11_often_0 : kq cX11_often [(0, .iload_n 1, 1), (1, .i2l, 1), (2, .lconst 0, 1), (3, .ldc2_w 348, 3), (6, .invokestatic 341, 3), (9, .ifCond .ne 11, 3), (12, .aload_n 0, 1), (13, .iconst 1, 1), (14, .invokevirtual 188, 3), (17, .goto 28, 3), (20, .aload_n 0, 1), (21, .invokevirtual 306, 3), (24, .ifCond .eq 15, 3), (27, .aload_n 0, 1), (28, .aload_n 0, 1), (29, .iload_n 1, 1), (30, .invokevirtual 350, 3), (33, .invokevirtual 191, 3), (36, .goto 9, 3), (39, .aload_n 0, 1), (40, .bipush 6, 2), (42, .invokevirtual 188, 3), (45, .ireturn, 1)] = true := by decide +kernel
theorem dX11_often_0 : decode cX11_often 0 = .ok (.iload_n 1, 1) := kq.at kqdX11_often_0 0 rfl
theorem dX11_often_1 : decode cX11_often 1 = .ok (.i2l, 1) := kq.at kqdX11_often_0 1 rfl
theorem dX11_often_2 : decode cX11_often 2 = .ok (.lconst 0, 1) := kq.at kqdX11_often_0 2 rfl
theorem dX11_often_3 : decode cX11_often 3 = .ok (.ldc2_w 348, 3) := kq.at kqdX11_often_0 3 rfl
theorem dX11_often_6 : decode cX11_often 6 = .ok (.invokestatic 341, 3) := kq.at kqdX11_often_0 4 rfl
theorem dX11_often_9 : decode cX11_often 9 = .ok (.ifCond .ne 11, 3) := kq.at kqdX11_often_0 5 rfl
theorem dX11_often_12 : decode cX11_often 12 = .ok (.aload_n 0, 1) := kq.at kqdX11_often_0 6 rfl
theorem dX11_often_13 : decode cX11_often 13 = .ok (.iconst 1, 1) := kq.at kqdX11_often_0 7 rfl
theorem dX11_often_14 : decode cX11_often 14 = .ok (.invokevirtual 188, 3) := kq.at kqdX11_often_0 8 rfl
theorem dX11_often_17 : decode cX11_often 17 = .ok (.goto 28, 3) := kq.at kqdX11_often_0 9 rfl
theorem dX11_often_20 : decode cX11_often 20 = .ok (.aload_n 0, 1) := kq.at kqdX11_often_0 10 rfl
theorem dX11_often_21 : decode cX11_often 21 = .ok (.invokevirtual 306, 3) := kq.at kqdX11_often_0 11 rfl
theorem dX11_often_24 : decode cX11_often 24 = .ok (.ifCond .eq 15, 3) := kq.at kqdX11_often_0 12 rfl
theorem dX11_often_27 : decode cX11_often 27 = .ok (.aload_n 0, 1) := kq.at kqdX11_often_0 13 rfl
theorem dX11_often_28 : decode cX11_often 28 = .ok (.aload_n 0, 1) := kq.at kqdX11_often_0 14 rfl
theorem dX11_often_29 : decode cX11_often 29 = .ok (.iload_n 1, 1) := kq.at kqdX11_often_0 15 rfl
theorem dX11_often_30 : decode cX11_often 30 = .ok (.invokevirtual 350, 3) := kq.at kqdX11_often_0 16 rfl
theorem dX11_often_33 : decode cX11_often 33 = .ok (.invokevirtual 191, 3) := kq.at kqdX11_often_0 17 rfl
theorem dX11_often_36 : decode cX11_often 36 = .ok (.goto 9, 3) := kq.at kqdX11_often_0 18 rfl
theorem dX11_often_39 : decode cX11_often 39 = .ok (.aload_n 0, 1) := kq.at kqdX11_often_0 19 rfl
theorem dX11_often_40 : decode cX11_often 40 = .ok (.bipush 6, 2) := kq.at kqdX11_often_0 20 rfl
theorem dX11_often_42 : decode cX11_often 42 = .ok (.invokevirtual 188, 3) := kq.at kqdX11_often_0 21 rfl
theorem dX11_often_45 : decode cX11_often 45 = .ok (.ireturn, 1) := kq.at kqdX11_often_0 22 rfl
theorem kqdX11_commonest_0 : kq cX11_commonest [(0, .aload_n 0, 1), (1, .invokevirtual 306, 3), (4, .ifCond .ne 10, 3), (7, .aload_n 0, 1), (8, .bipush 6, 2), (10, .invokevirtual 188, 3), (13, .ireturn, 1), (14, .iconst 0, 1), (15, .istore_n 1, 1), (16, .iconst 0, 1), (17, .istore_n 2, 1), (18, .iconst 1, 1), (19, .istore_n 3, 1), (20, .iload_n 3, 1), (21, .bipush 63, 2), (23, .if_icmp .gt 29, 3), (26, .aload_n 0, 1), (27, .iload_n 3, 1), (28, .invokevirtual 350, 3), (31, .iload_n 2, 1), (32, .if_icmp .gt 6, 3), (35, .goto 11, 3), (38, .aload_n 0, 1), (39, .iload_n 3, 1)] = true := by decide +kernel
theorem dX11_commonest_0 : decode cX11_commonest 0 = .ok (.aload_n 0, 1) := kq.at kqdX11_commonest_0 0 rfl
theorem dX11_commonest_1 : decode cX11_commonest 1 = .ok (.invokevirtual 306, 3) := kq.at kqdX11_commonest_0 1 rfl
theorem dX11_commonest_4 : decode cX11_commonest 4 = .ok (.ifCond .ne 10, 3) := kq.at kqdX11_commonest_0 2 rfl
theorem dX11_commonest_7 : decode cX11_commonest 7 = .ok (.aload_n 0, 1) := kq.at kqdX11_commonest_0 3 rfl
theorem dX11_commonest_8 : decode cX11_commonest 8 = .ok (.bipush 6, 2) := kq.at kqdX11_commonest_0 4 rfl
theorem dX11_commonest_10 : decode cX11_commonest 10 = .ok (.invokevirtual 188, 3) := kq.at kqdX11_commonest_0 5 rfl
theorem dX11_commonest_13 : decode cX11_commonest 13 = .ok (.ireturn, 1) := kq.at kqdX11_commonest_0 6 rfl
theorem dX11_commonest_14 : decode cX11_commonest 14 = .ok (.iconst 0, 1) := kq.at kqdX11_commonest_0 7 rfl
theorem dX11_commonest_15 : decode cX11_commonest 15 = .ok (.istore_n 1, 1) := kq.at kqdX11_commonest_0 8 rfl
theorem dX11_commonest_16 : decode cX11_commonest 16 = .ok (.iconst 0, 1) := kq.at kqdX11_commonest_0 9 rfl
theorem dX11_commonest_17 : decode cX11_commonest 17 = .ok (.istore_n 2, 1) := kq.at kqdX11_commonest_0 10 rfl
theorem dX11_commonest_18 : decode cX11_commonest 18 = .ok (.iconst 1, 1) := kq.at kqdX11_commonest_0 11 rfl
theorem dX11_commonest_19 : decode cX11_commonest 19 = .ok (.istore_n 3, 1) := kq.at kqdX11_commonest_0 12 rfl
theorem dX11_commonest_20 : decode cX11_commonest 20 = .ok (.iload_n 3, 1) := kq.at kqdX11_commonest_0 13 rfl
theorem dX11_commonest_21 : decode cX11_commonest 21 = .ok (.bipush 63, 2) := kq.at kqdX11_commonest_0 14 rfl
theorem dX11_commonest_23 : decode cX11_commonest 23 = .ok (.if_icmp .gt 29, 3) := kq.at kqdX11_commonest_0 15 rfl
theorem dX11_commonest_26 : decode cX11_commonest 26 = .ok (.aload_n 0, 1) := kq.at kqdX11_commonest_0 16 rfl
theorem dX11_commonest_27 : decode cX11_commonest 27 = .ok (.iload_n 3, 1) := kq.at kqdX11_commonest_0 17 rfl
theorem dX11_commonest_28 : decode cX11_commonest 28 = .ok (.invokevirtual 350, 3) := kq.at kqdX11_commonest_0 18 rfl
theorem dX11_commonest_31 : decode cX11_commonest 31 = .ok (.iload_n 2, 1) := kq.at kqdX11_commonest_0 19 rfl
theorem dX11_commonest_32 : decode cX11_commonest 32 = .ok (.if_icmp .gt 6, 3) := kq.at kqdX11_commonest_0 20 rfl
theorem dX11_commonest_35 : decode cX11_commonest 35 = .ok (.goto 11, 3) := kq.at kqdX11_commonest_0 21 rfl
theorem dX11_commonest_38 : decode cX11_commonest 38 = .ok (.aload_n 0, 1) := kq.at kqdX11_commonest_0 22 rfl
theorem dX11_commonest_39 : decode cX11_commonest 39 = .ok (.iload_n 3, 1) := kq.at kqdX11_commonest_0 23 rfl
theorem kqdX11_commonest_40 : kq cX11_commonest [(40, .invokevirtual 350, 3), (43, .istore_n 2, 1), (44, .iload_n 3, 1), (45, .istore_n 1, 1), (46, .iinc 3 1, 3), (49, .goto (-29), 3), (52, .iload_n 1, 1), (53, .ifCond .ne 12, 3), (56, .aload_n 0, 1), (57, .bipush 6, 2), (59, .invokevirtual 188, 3), (62, .goto 8, 3), (65, .aload_n 0, 1), (66, .iload_n 1, 1), (67, .invokevirtual 191, 3), (70, .ireturn, 1)] = true := by decide +kernel
theorem dX11_commonest_40 : decode cX11_commonest 40 = .ok (.invokevirtual 350, 3) := kq.at kqdX11_commonest_40 0 rfl
theorem dX11_commonest_43 : decode cX11_commonest 43 = .ok (.istore_n 2, 1) := kq.at kqdX11_commonest_40 1 rfl
theorem dX11_commonest_44 : decode cX11_commonest 44 = .ok (.iload_n 3, 1) := kq.at kqdX11_commonest_40 2 rfl
theorem dX11_commonest_45 : decode cX11_commonest 45 = .ok (.istore_n 1, 1) := kq.at kqdX11_commonest_40 3 rfl
theorem dX11_commonest_46 : decode cX11_commonest 46 = .ok (.iinc 3 1, 3) := kq.at kqdX11_commonest_40 4 rfl
theorem dX11_commonest_49 : decode cX11_commonest 49 = .ok (.goto (-29), 3) := kq.at kqdX11_commonest_40 5 rfl
theorem dX11_commonest_52 : decode cX11_commonest 52 = .ok (.iload_n 1, 1) := kq.at kqdX11_commonest_40 6 rfl
theorem dX11_commonest_53 : decode cX11_commonest 53 = .ok (.ifCond .ne 12, 3) := kq.at kqdX11_commonest_40 7 rfl
theorem dX11_commonest_56 : decode cX11_commonest 56 = .ok (.aload_n 0, 1) := kq.at kqdX11_commonest_40 8 rfl
theorem dX11_commonest_57 : decode cX11_commonest 57 = .ok (.bipush 6, 2) := kq.at kqdX11_commonest_40 9 rfl
theorem dX11_commonest_59 : decode cX11_commonest 59 = .ok (.invokevirtual 188, 3) := kq.at kqdX11_commonest_40 10 rfl
theorem dX11_commonest_62 : decode cX11_commonest 62 = .ok (.goto 8, 3) := kq.at kqdX11_commonest_40 11 rfl
theorem dX11_commonest_65 : decode cX11_commonest 65 = .ok (.aload_n 0, 1) := kq.at kqdX11_commonest_40 12 rfl
theorem dX11_commonest_66 : decode cX11_commonest 66 = .ok (.iload_n 1, 1) := kq.at kqdX11_commonest_40 13 rfl
theorem dX11_commonest_67 : decode cX11_commonest 67 = .ok (.invokevirtual 191, 3) := kq.at kqdX11_commonest_40 14 rfl
theorem dX11_commonest_70 : decode cX11_commonest 70 = .ok (.ireturn, 1) := kq.at kqdX11_commonest_40 15 rfl
theorem kqdX11_shorter_0 : kq cX11_shorter [(0, .aload_n 0, 1), (1, .getfield 7, 3), (4, .iconst 4, 1), (5, .iaload, 1), (6, .iload_n 1, 1), (7, .isub, 1), (8, .aload_n 0, 1), (9, .getfield 7, 3), (12, .iconst 4, 1), (13, .iaload, 1), (14, .iload_n 1, 1), (15, .isub, 1), (16, .imul, 1), (17, .ireturn, 1)] = true := by decide +kernel
theorem dX11_shorter_0 : decode cX11_shorter 0 = .ok (.aload_n 0, 1) := kq.at kqdX11_shorter_0 0 rfl
theorem dX11_shorter_1 : decode cX11_shorter 1 = .ok (.getfield 7, 3) := kq.at kqdX11_shorter_0 1 rfl
theorem dX11_shorter_4 : decode cX11_shorter 4 = .ok (.iconst 4, 1) := kq.at kqdX11_shorter_0 2 rfl
theorem dX11_shorter_5 : decode cX11_shorter 5 = .ok (.iaload, 1) := kq.at kqdX11_shorter_0 3 rfl
theorem dX11_shorter_6 : decode cX11_shorter 6 = .ok (.iload_n 1, 1) := kq.at kqdX11_shorter_0 4 rfl
theorem dX11_shorter_7 : decode cX11_shorter 7 = .ok (.isub, 1) := kq.at kqdX11_shorter_0 5 rfl
theorem dX11_shorter_8 : decode cX11_shorter 8 = .ok (.aload_n 0, 1) := kq.at kqdX11_shorter_0 6 rfl
theorem dX11_shorter_9 : decode cX11_shorter 9 = .ok (.getfield 7, 3) := kq.at kqdX11_shorter_0 7 rfl
theorem dX11_shorter_12 : decode cX11_shorter 12 = .ok (.iconst 4, 1) := kq.at kqdX11_shorter_0 8 rfl
theorem dX11_shorter_13 : decode cX11_shorter 13 = .ok (.iaload, 1) := kq.at kqdX11_shorter_0 9 rfl
theorem dX11_shorter_14 : decode cX11_shorter 14 = .ok (.iload_n 1, 1) := kq.at kqdX11_shorter_0 10 rfl
theorem dX11_shorter_15 : decode cX11_shorter 15 = .ok (.isub, 1) := kq.at kqdX11_shorter_0 11 rfl
theorem dX11_shorter_16 : decode cX11_shorter 16 = .ok (.imul, 1) := kq.at kqdX11_shorter_0 12 rfl
theorem dX11_shorter_17 : decode cX11_shorter 17 = .ok (.ireturn, 1) := kq.at kqdX11_shorter_0 13 rfl
theorem kqdX11_ragged_0 : kq cX11_ragged [(0, .aload_n 0, 1), (1, .invokevirtual 306, 3), (4, .ifCond .ne 10, 3), (7, .aload_n 0, 1), (8, .bipush 6, 2), (10, .invokevirtual 188, 3), (13, .ireturn, 1), (14, .aload_n 0, 1), (15, .invokevirtual 330, 3), (18, .iconst 0, 1), (19, .istore_n 1, 1), (20, .iconst 0, 1), (21, .istore_n 2, 1), (22, .iload_n 2, 1), (23, .aload_n 0, 1), (24, .getfield 315, 3), (27, .iconst 1, 1), (28, .isub, 1), (29, .if_icmp .ge 22, 3), (32, .iload_n 1, 1), (33, .aload_n 0, 1), (34, .aload_n 0, 1), (35, .getfield 47, 3), (38, .iload_n 2, 1)] = true := by decide +kernel
theorem dX11_ragged_0 : decode cX11_ragged 0 = .ok (.aload_n 0, 1) := kq.at kqdX11_ragged_0 0 rfl
theorem dX11_ragged_1 : decode cX11_ragged 1 = .ok (.invokevirtual 306, 3) := kq.at kqdX11_ragged_0 1 rfl
theorem dX11_ragged_4 : decode cX11_ragged 4 = .ok (.ifCond .ne 10, 3) := kq.at kqdX11_ragged_0 2 rfl
theorem dX11_ragged_7 : decode cX11_ragged 7 = .ok (.aload_n 0, 1) := kq.at kqdX11_ragged_0 3 rfl
theorem dX11_ragged_8 : decode cX11_ragged 8 = .ok (.bipush 6, 2) := kq.at kqdX11_ragged_0 4 rfl
theorem dX11_ragged_10 : decode cX11_ragged 10 = .ok (.invokevirtual 188, 3) := kq.at kqdX11_ragged_0 5 rfl
theorem dX11_ragged_13 : decode cX11_ragged 13 = .ok (.ireturn, 1) := kq.at kqdX11_ragged_0 6 rfl
theorem dX11_ragged_14 : decode cX11_ragged 14 = .ok (.aload_n 0, 1) := kq.at kqdX11_ragged_0 7 rfl
theorem dX11_ragged_15 : decode cX11_ragged 15 = .ok (.invokevirtual 330, 3) := kq.at kqdX11_ragged_0 8 rfl
theorem dX11_ragged_18 : decode cX11_ragged 18 = .ok (.iconst 0, 1) := kq.at kqdX11_ragged_0 9 rfl
theorem dX11_ragged_19 : decode cX11_ragged 19 = .ok (.istore_n 1, 1) := kq.at kqdX11_ragged_0 10 rfl
theorem dX11_ragged_20 : decode cX11_ragged 20 = .ok (.iconst 0, 1) := kq.at kqdX11_ragged_0 11 rfl
theorem dX11_ragged_21 : decode cX11_ragged 21 = .ok (.istore_n 2, 1) := kq.at kqdX11_ragged_0 12 rfl
theorem dX11_ragged_22 : decode cX11_ragged 22 = .ok (.iload_n 2, 1) := kq.at kqdX11_ragged_0 13 rfl
theorem dX11_ragged_23 : decode cX11_ragged 23 = .ok (.aload_n 0, 1) := kq.at kqdX11_ragged_0 14 rfl
theorem dX11_ragged_24 : decode cX11_ragged 24 = .ok (.getfield 315, 3) := kq.at kqdX11_ragged_0 15 rfl
theorem dX11_ragged_27 : decode cX11_ragged 27 = .ok (.iconst 1, 1) := kq.at kqdX11_ragged_0 16 rfl
theorem dX11_ragged_28 : decode cX11_ragged 28 = .ok (.isub, 1) := kq.at kqdX11_ragged_0 17 rfl
theorem dX11_ragged_29 : decode cX11_ragged 29 = .ok (.if_icmp .ge 22, 3) := kq.at kqdX11_ragged_0 18 rfl
theorem dX11_ragged_32 : decode cX11_ragged 32 = .ok (.iload_n 1, 1) := kq.at kqdX11_ragged_0 19 rfl
theorem dX11_ragged_33 : decode cX11_ragged 33 = .ok (.aload_n 0, 1) := kq.at kqdX11_ragged_0 20 rfl
theorem dX11_ragged_34 : decode cX11_ragged 34 = .ok (.aload_n 0, 1) := kq.at kqdX11_ragged_0 21 rfl
theorem dX11_ragged_35 : decode cX11_ragged 35 = .ok (.getfield 47, 3) := kq.at kqdX11_ragged_0 22 rfl
theorem dX11_ragged_38 : decode cX11_ragged 38 = .ok (.iload_n 2, 1) := kq.at kqdX11_ragged_0 23 rfl
theorem kqdX11_ragged_39 : kq cX11_ragged [(39, .iaload, 1), (40, .invokevirtual 353, 3), (43, .iadd, 1), (44, .istore_n 1, 1), (45, .iinc 2 1, 3), (48, .goto (-26), 3), (51, .aload_n 0, 1), (52, .iload_n 1, 1), (53, .invokevirtual 191, 3), (56, .ireturn, 1)] = true := by decide +kernel
theorem dX11_ragged_39 : decode cX11_ragged 39 = .ok (.iaload, 1) := kq.at kqdX11_ragged_39 0 rfl
theorem dX11_ragged_40 : decode cX11_ragged 40 = .ok (.invokevirtual 353, 3) := kq.at kqdX11_ragged_39 1 rfl
theorem dX11_ragged_43 : decode cX11_ragged 43 = .ok (.iadd, 1) := kq.at kqdX11_ragged_39 2 rfl
theorem dX11_ragged_44 : decode cX11_ragged 44 = .ok (.istore_n 1, 1) := kq.at kqdX11_ragged_39 3 rfl
theorem dX11_ragged_45 : decode cX11_ragged 45 = .ok (.iinc 2 1, 3) := kq.at kqdX11_ragged_39 4 rfl
theorem dX11_ragged_48 : decode cX11_ragged 48 = .ok (.goto (-26), 3) := kq.at kqdX11_ragged_39 5 rfl
theorem dX11_ragged_51 : decode cX11_ragged 51 = .ok (.aload_n 0, 1) := kq.at kqdX11_ragged_39 6 rfl
theorem dX11_ragged_52 : decode cX11_ragged 52 = .ok (.iload_n 1, 1) := kq.at kqdX11_ragged_39 7 rfl
theorem dX11_ragged_53 : decode cX11_ragged 53 = .ok (.invokevirtual 191, 3) := kq.at kqdX11_ragged_39 8 rfl
theorem dX11_ragged_56 : decode cX11_ragged 56 = .ok (.ireturn, 1) := kq.at kqdX11_ragged_39 9 rfl
theorem kqdX11_leastRagged_0 : kq cX11_leastRagged [(0, .aload_n 0, 1), (1, .invokevirtual 306, 3), (4, .ifCond .ne 10, 3), (7, .aload_n 0, 1), (8, .bipush 6, 2), (10, .invokevirtual 188, 3), (13, .ireturn, 1), (14, .aload_n 0, 1), (15, .getfield 7, 3), (18, .bipush 9, 2), (20, .iaload, 1), (21, .istore_n 1, 1), (22, .iconst 0, 1), (23, .istore_n 2, 1), (24, .iload_n 2, 1), (25, .iload_n 1, 1), (26, .if_icmp .ge 30, 3), (29, .aload_n 0, 1), (30, .iload_n 2, 1), (31, .invokevirtual 321, 3), (34, .aload_n 0, 1), (35, .getfield 7, 3), (38, .iconst 4, 1), (39, .iaload, 1)] = true := by decide +kernel
theorem dX11_leastRagged_0 : decode cX11_leastRagged 0 = .ok (.aload_n 0, 1) := kq.at kqdX11_leastRagged_0 0 rfl
theorem dX11_leastRagged_1 : decode cX11_leastRagged 1 = .ok (.invokevirtual 306, 3) := kq.at kqdX11_leastRagged_0 1 rfl
theorem dX11_leastRagged_4 : decode cX11_leastRagged 4 = .ok (.ifCond .ne 10, 3) := kq.at kqdX11_leastRagged_0 2 rfl
theorem dX11_leastRagged_7 : decode cX11_leastRagged 7 = .ok (.aload_n 0, 1) := kq.at kqdX11_leastRagged_0 3 rfl
theorem dX11_leastRagged_8 : decode cX11_leastRagged 8 = .ok (.bipush 6, 2) := kq.at kqdX11_leastRagged_0 4 rfl
theorem dX11_leastRagged_10 : decode cX11_leastRagged 10 = .ok (.invokevirtual 188, 3) := kq.at kqdX11_leastRagged_0 5 rfl
theorem dX11_leastRagged_13 : decode cX11_leastRagged 13 = .ok (.ireturn, 1) := kq.at kqdX11_leastRagged_0 6 rfl
theorem dX11_leastRagged_14 : decode cX11_leastRagged 14 = .ok (.aload_n 0, 1) := kq.at kqdX11_leastRagged_0 7 rfl
theorem dX11_leastRagged_15 : decode cX11_leastRagged 15 = .ok (.getfield 7, 3) := kq.at kqdX11_leastRagged_0 8 rfl
theorem dX11_leastRagged_18 : decode cX11_leastRagged 18 = .ok (.bipush 9, 2) := kq.at kqdX11_leastRagged_0 9 rfl
theorem dX11_leastRagged_20 : decode cX11_leastRagged 20 = .ok (.iaload, 1) := kq.at kqdX11_leastRagged_0 10 rfl
theorem dX11_leastRagged_21 : decode cX11_leastRagged 21 = .ok (.istore_n 1, 1) := kq.at kqdX11_leastRagged_0 11 rfl
theorem dX11_leastRagged_22 : decode cX11_leastRagged 22 = .ok (.iconst 0, 1) := kq.at kqdX11_leastRagged_0 12 rfl
theorem dX11_leastRagged_23 : decode cX11_leastRagged 23 = .ok (.istore_n 2, 1) := kq.at kqdX11_leastRagged_0 13 rfl
theorem dX11_leastRagged_24 : decode cX11_leastRagged 24 = .ok (.iload_n 2, 1) := kq.at kqdX11_leastRagged_0 14 rfl
theorem dX11_leastRagged_25 : decode cX11_leastRagged 25 = .ok (.iload_n 1, 1) := kq.at kqdX11_leastRagged_0 15 rfl
theorem dX11_leastRagged_26 : decode cX11_leastRagged 26 = .ok (.if_icmp .ge 30, 3) := kq.at kqdX11_leastRagged_0 16 rfl
theorem dX11_leastRagged_29 : decode cX11_leastRagged 29 = .ok (.aload_n 0, 1) := kq.at kqdX11_leastRagged_0 17 rfl
theorem dX11_leastRagged_30 : decode cX11_leastRagged 30 = .ok (.iload_n 2, 1) := kq.at kqdX11_leastRagged_0 18 rfl
theorem dX11_leastRagged_31 : decode cX11_leastRagged 31 = .ok (.invokevirtual 321, 3) := kq.at kqdX11_leastRagged_0 19 rfl
theorem dX11_leastRagged_34 : decode cX11_leastRagged 34 = .ok (.aload_n 0, 1) := kq.at kqdX11_leastRagged_0 20 rfl
theorem dX11_leastRagged_35 : decode cX11_leastRagged 35 = .ok (.getfield 7, 3) := kq.at kqdX11_leastRagged_0 21 rfl
theorem dX11_leastRagged_38 : decode cX11_leastRagged 38 = .ok (.iconst 4, 1) := kq.at kqdX11_leastRagged_0 22 rfl
theorem dX11_leastRagged_39 : decode cX11_leastRagged 39 = .ok (.iaload, 1) := kq.at kqdX11_leastRagged_0 23 rfl
theorem kqdX11_leastRagged_40 : kq cX11_leastRagged [(40, .if_icmp .le 10, 3), (43, .aload_n 0, 1), (44, .bipush 7, 2), (46, .invokevirtual 188, 3), (49, .ireturn, 1), (50, .iinc 2 1, 3), (53, .goto (-29), 3), (56, .aload_n 0, 1), (57, .getfield 56, 3), (60, .iload_n 1, 1), (61, .iconst 0, 1), (62, .iastore, 1), (63, .iload_n 1, 1), (64, .iconst 1, 1), (65, .isub, 1), (66, .istore_n 2, 1), (67, .iload_n 2, 1), (68, .ifCond .lt 97, 3), (71, .iconst (-1), 1), (72, .istore_n 3, 1), (73, .ldc_w 358, 3), (76, .istore 4, 2), (78, .iload_n 2, 1), (79, .istore 5, 2)] = true := by decide +kernel
theorem dX11_leastRagged_40 : decode cX11_leastRagged 40 = .ok (.if_icmp .le 10, 3) := kq.at kqdX11_leastRagged_40 0 rfl
theorem dX11_leastRagged_43 : decode cX11_leastRagged 43 = .ok (.aload_n 0, 1) := kq.at kqdX11_leastRagged_40 1 rfl
theorem dX11_leastRagged_44 : decode cX11_leastRagged 44 = .ok (.bipush 7, 2) := kq.at kqdX11_leastRagged_40 2 rfl
theorem dX11_leastRagged_46 : decode cX11_leastRagged 46 = .ok (.invokevirtual 188, 3) := kq.at kqdX11_leastRagged_40 3 rfl
theorem dX11_leastRagged_49 : decode cX11_leastRagged 49 = .ok (.ireturn, 1) := kq.at kqdX11_leastRagged_40 4 rfl
theorem dX11_leastRagged_50 : decode cX11_leastRagged 50 = .ok (.iinc 2 1, 3) := kq.at kqdX11_leastRagged_40 5 rfl
theorem dX11_leastRagged_53 : decode cX11_leastRagged 53 = .ok (.goto (-29), 3) := kq.at kqdX11_leastRagged_40 6 rfl
theorem dX11_leastRagged_56 : decode cX11_leastRagged 56 = .ok (.aload_n 0, 1) := kq.at kqdX11_leastRagged_40 7 rfl
theorem dX11_leastRagged_57 : decode cX11_leastRagged 57 = .ok (.getfield 56, 3) := kq.at kqdX11_leastRagged_40 8 rfl
theorem dX11_leastRagged_60 : decode cX11_leastRagged 60 = .ok (.iload_n 1, 1) := kq.at kqdX11_leastRagged_40 9 rfl
theorem dX11_leastRagged_61 : decode cX11_leastRagged 61 = .ok (.iconst 0, 1) := kq.at kqdX11_leastRagged_40 10 rfl
theorem dX11_leastRagged_62 : decode cX11_leastRagged 62 = .ok (.iastore, 1) := kq.at kqdX11_leastRagged_40 11 rfl
theorem dX11_leastRagged_63 : decode cX11_leastRagged 63 = .ok (.iload_n 1, 1) := kq.at kqdX11_leastRagged_40 12 rfl
theorem dX11_leastRagged_64 : decode cX11_leastRagged 64 = .ok (.iconst 1, 1) := kq.at kqdX11_leastRagged_40 13 rfl
theorem dX11_leastRagged_65 : decode cX11_leastRagged 65 = .ok (.isub, 1) := kq.at kqdX11_leastRagged_40 14 rfl
theorem dX11_leastRagged_66 : decode cX11_leastRagged 66 = .ok (.istore_n 2, 1) := kq.at kqdX11_leastRagged_40 15 rfl
theorem dX11_leastRagged_67 : decode cX11_leastRagged 67 = .ok (.iload_n 2, 1) := kq.at kqdX11_leastRagged_40 16 rfl
theorem dX11_leastRagged_68 : decode cX11_leastRagged 68 = .ok (.ifCond .lt 97, 3) := kq.at kqdX11_leastRagged_40 17 rfl
theorem dX11_leastRagged_71 : decode cX11_leastRagged 71 = .ok (.iconst (-1), 1) := kq.at kqdX11_leastRagged_40 18 rfl
theorem dX11_leastRagged_72 : decode cX11_leastRagged 72 = .ok (.istore_n 3, 1) := kq.at kqdX11_leastRagged_40 19 rfl
theorem dX11_leastRagged_73 : decode cX11_leastRagged 73 = .ok (.ldc_w 358, 3) := kq.at kqdX11_leastRagged_40 20 rfl
theorem dX11_leastRagged_76 : decode cX11_leastRagged 76 = .ok (.istore 4, 2) := kq.at kqdX11_leastRagged_40 21 rfl
theorem dX11_leastRagged_78 : decode cX11_leastRagged 78 = .ok (.iload_n 2, 1) := kq.at kqdX11_leastRagged_40 22 rfl
theorem dX11_leastRagged_79 : decode cX11_leastRagged 79 = .ok (.istore 5, 2) := kq.at kqdX11_leastRagged_40 23 rfl
theorem kqdX11_leastRagged_81 : kq cX11_leastRagged [(81, .iload 5, 2), (83, .iload_n 1, 1), (84, .if_icmp .ge 67, 3), (87, .iload_n 3, 1), (88, .iconst 1, 1), (89, .aload_n 0, 1), (90, .iload 5, 2), (92, .invokevirtual 321, 3), (95, .iadd, 1), (96, .iadd, 1), (97, .istore_n 3, 1), (98, .iload_n 3, 1), (99, .aload_n 0, 1), (100, .getfield 7, 3), (103, .iconst 4, 1), (104, .iaload, 1), (105, .if_icmp .le 6, 3), (108, .goto 43, 3), (111, .iload 4, 2), (113, .iload 5, 2), (115, .iconst 1, 1), (116, .iadd, 1), (117, .iload_n 1, 1), (118, .if_icmp .ne 7, 3)] = true := by decide +kernel
theorem dX11_leastRagged_81 : decode cX11_leastRagged 81 = .ok (.iload 5, 2) := kq.at kqdX11_leastRagged_81 0 rfl
theorem dX11_leastRagged_83 : decode cX11_leastRagged 83 = .ok (.iload_n 1, 1) := kq.at kqdX11_leastRagged_81 1 rfl
theorem dX11_leastRagged_84 : decode cX11_leastRagged 84 = .ok (.if_icmp .ge 67, 3) := kq.at kqdX11_leastRagged_81 2 rfl
theorem dX11_leastRagged_87 : decode cX11_leastRagged 87 = .ok (.iload_n 3, 1) := kq.at kqdX11_leastRagged_81 3 rfl
theorem dX11_leastRagged_88 : decode cX11_leastRagged 88 = .ok (.iconst 1, 1) := kq.at kqdX11_leastRagged_81 4 rfl
theorem dX11_leastRagged_89 : decode cX11_leastRagged 89 = .ok (.aload_n 0, 1) := kq.at kqdX11_leastRagged_81 5 rfl
theorem dX11_leastRagged_90 : decode cX11_leastRagged 90 = .ok (.iload 5, 2) := kq.at kqdX11_leastRagged_81 6 rfl
theorem dX11_leastRagged_92 : decode cX11_leastRagged 92 = .ok (.invokevirtual 321, 3) := kq.at kqdX11_leastRagged_81 7 rfl
theorem dX11_leastRagged_95 : decode cX11_leastRagged 95 = .ok (.iadd, 1) := kq.at kqdX11_leastRagged_81 8 rfl
theorem dX11_leastRagged_96 : decode cX11_leastRagged 96 = .ok (.iadd, 1) := kq.at kqdX11_leastRagged_81 9 rfl
theorem dX11_leastRagged_97 : decode cX11_leastRagged 97 = .ok (.istore_n 3, 1) := kq.at kqdX11_leastRagged_81 10 rfl
theorem dX11_leastRagged_98 : decode cX11_leastRagged 98 = .ok (.iload_n 3, 1) := kq.at kqdX11_leastRagged_81 11 rfl
theorem dX11_leastRagged_99 : decode cX11_leastRagged 99 = .ok (.aload_n 0, 1) := kq.at kqdX11_leastRagged_81 12 rfl
theorem dX11_leastRagged_100 : decode cX11_leastRagged 100 = .ok (.getfield 7, 3) := kq.at kqdX11_leastRagged_81 13 rfl
theorem dX11_leastRagged_103 : decode cX11_leastRagged 103 = .ok (.iconst 4, 1) := kq.at kqdX11_leastRagged_81 14 rfl
theorem dX11_leastRagged_104 : decode cX11_leastRagged 104 = .ok (.iaload, 1) := kq.at kqdX11_leastRagged_81 15 rfl
theorem dX11_leastRagged_105 : decode cX11_leastRagged 105 = .ok (.if_icmp .le 6, 3) := kq.at kqdX11_leastRagged_81 16 rfl
theorem dX11_leastRagged_108 : decode cX11_leastRagged 108 = .ok (.goto 43, 3) := kq.at kqdX11_leastRagged_81 17 rfl
theorem dX11_leastRagged_111 : decode cX11_leastRagged 111 = .ok (.iload 4, 2) := kq.at kqdX11_leastRagged_81 18 rfl
theorem dX11_leastRagged_113 : decode cX11_leastRagged 113 = .ok (.iload 5, 2) := kq.at kqdX11_leastRagged_81 19 rfl
theorem dX11_leastRagged_115 : decode cX11_leastRagged 115 = .ok (.iconst 1, 1) := kq.at kqdX11_leastRagged_81 20 rfl
theorem dX11_leastRagged_116 : decode cX11_leastRagged 116 = .ok (.iadd, 1) := kq.at kqdX11_leastRagged_81 21 rfl
theorem dX11_leastRagged_117 : decode cX11_leastRagged 117 = .ok (.iload_n 1, 1) := kq.at kqdX11_leastRagged_81 22 rfl
theorem dX11_leastRagged_118 : decode cX11_leastRagged 118 = .ok (.if_icmp .ne 7, 3) := kq.at kqdX11_leastRagged_81 23 rfl
theorem kqdX11_leastRagged_121 : kq cX11_leastRagged [(121, .iconst 0, 1), (122, .goto 18, 3), (125, .aload_n 0, 1), (126, .iload_n 3, 1), (127, .invokevirtual 353, 3), (130, .aload_n 0, 1), (131, .getfield 56, 3), (134, .iload 5, 2), (136, .iconst 1, 1), (137, .iadd, 1), (138, .iaload, 1), (139, .iadd, 1), (140, .invokestatic 154, 3), (143, .istore 4, 2), (145, .iinc 5 1, 3), (148, .goto (-67), 3), (151, .aload_n 0, 1), (152, .getfield 56, 3), (155, .iload_n 2, 1), (156, .iload 4, 2), (158, .iastore, 1), (159, .iinc 2 (-1), 3), (162, .goto (-95), 3), (165, .aload_n 0, 1)] = true := by decide +kernel
theorem dX11_leastRagged_121 : decode cX11_leastRagged 121 = .ok (.iconst 0, 1) := kq.at kqdX11_leastRagged_121 0 rfl
theorem dX11_leastRagged_122 : decode cX11_leastRagged 122 = .ok (.goto 18, 3) := kq.at kqdX11_leastRagged_121 1 rfl
theorem dX11_leastRagged_125 : decode cX11_leastRagged 125 = .ok (.aload_n 0, 1) := kq.at kqdX11_leastRagged_121 2 rfl
theorem dX11_leastRagged_126 : decode cX11_leastRagged 126 = .ok (.iload_n 3, 1) := kq.at kqdX11_leastRagged_121 3 rfl
theorem dX11_leastRagged_127 : decode cX11_leastRagged 127 = .ok (.invokevirtual 353, 3) := kq.at kqdX11_leastRagged_121 4 rfl
theorem dX11_leastRagged_130 : decode cX11_leastRagged 130 = .ok (.aload_n 0, 1) := kq.at kqdX11_leastRagged_121 5 rfl
theorem dX11_leastRagged_131 : decode cX11_leastRagged 131 = .ok (.getfield 56, 3) := kq.at kqdX11_leastRagged_121 6 rfl
theorem dX11_leastRagged_134 : decode cX11_leastRagged 134 = .ok (.iload 5, 2) := kq.at kqdX11_leastRagged_121 7 rfl
theorem dX11_leastRagged_136 : decode cX11_leastRagged 136 = .ok (.iconst 1, 1) := kq.at kqdX11_leastRagged_121 8 rfl
theorem dX11_leastRagged_137 : decode cX11_leastRagged 137 = .ok (.iadd, 1) := kq.at kqdX11_leastRagged_121 9 rfl
theorem dX11_leastRagged_138 : decode cX11_leastRagged 138 = .ok (.iaload, 1) := kq.at kqdX11_leastRagged_121 10 rfl
theorem dX11_leastRagged_139 : decode cX11_leastRagged 139 = .ok (.iadd, 1) := kq.at kqdX11_leastRagged_121 11 rfl
theorem dX11_leastRagged_140 : decode cX11_leastRagged 140 = .ok (.invokestatic 154, 3) := kq.at kqdX11_leastRagged_121 12 rfl
theorem dX11_leastRagged_143 : decode cX11_leastRagged 143 = .ok (.istore 4, 2) := kq.at kqdX11_leastRagged_121 13 rfl
theorem dX11_leastRagged_145 : decode cX11_leastRagged 145 = .ok (.iinc 5 1, 3) := kq.at kqdX11_leastRagged_121 14 rfl
theorem dX11_leastRagged_148 : decode cX11_leastRagged 148 = .ok (.goto (-67), 3) := kq.at kqdX11_leastRagged_121 15 rfl
theorem dX11_leastRagged_151 : decode cX11_leastRagged 151 = .ok (.aload_n 0, 1) := kq.at kqdX11_leastRagged_121 16 rfl
theorem dX11_leastRagged_152 : decode cX11_leastRagged 152 = .ok (.getfield 56, 3) := kq.at kqdX11_leastRagged_121 17 rfl
theorem dX11_leastRagged_155 : decode cX11_leastRagged 155 = .ok (.iload_n 2, 1) := kq.at kqdX11_leastRagged_121 18 rfl
theorem dX11_leastRagged_156 : decode cX11_leastRagged 156 = .ok (.iload 4, 2) := kq.at kqdX11_leastRagged_121 19 rfl
theorem dX11_leastRagged_158 : decode cX11_leastRagged 158 = .ok (.iastore, 1) := kq.at kqdX11_leastRagged_121 20 rfl
theorem dX11_leastRagged_159 : decode cX11_leastRagged 159 = .ok (.iinc 2 (-1), 3) := kq.at kqdX11_leastRagged_121 21 rfl
theorem dX11_leastRagged_162 : decode cX11_leastRagged 162 = .ok (.goto (-95), 3) := kq.at kqdX11_leastRagged_121 22 rfl
theorem dX11_leastRagged_165 : decode cX11_leastRagged 165 = .ok (.aload_n 0, 1) := kq.at kqdX11_leastRagged_121 23 rfl
theorem kqdX11_leastRagged_166 : kq cX11_leastRagged [(166, .aload_n 0, 1), (167, .getfield 56, 3), (170, .iconst 0, 1), (171, .iaload, 1), (172, .invokevirtual 191, 3), (175, .ireturn, 1)] = true := by decide +kernel
theorem dX11_leastRagged_166 : decode cX11_leastRagged 166 = .ok (.aload_n 0, 1) := kq.at kqdX11_leastRagged_166 0 rfl
theorem dX11_leastRagged_167 : decode cX11_leastRagged 167 = .ok (.getfield 56, 3) := kq.at kqdX11_leastRagged_166 1 rfl
theorem dX11_leastRagged_170 : decode cX11_leastRagged 170 = .ok (.iconst 0, 1) := kq.at kqdX11_leastRagged_166 2 rfl
theorem dX11_leastRagged_171 : decode cX11_leastRagged 171 = .ok (.iaload, 1) := kq.at kqdX11_leastRagged_166 3 rfl
theorem dX11_leastRagged_172 : decode cX11_leastRagged 172 = .ok (.invokevirtual 191, 3) := kq.at kqdX11_leastRagged_166 4 rfl
theorem dX11_leastRagged_175 : decode cX11_leastRagged 175 = .ok (.ireturn, 1) := kq.at kqdX11_leastRagged_166 5 rfl
theorem kqdX11_wasted_0 : kq cX11_wasted [(0, .aload_n 0, 1), (1, .iload_n 1, 1), (2, .invokevirtual 333, 3), (5, .ifCond .eq 23, 3), (8, .aload_n 0, 1), (9, .aload_n 0, 1), (10, .getfield 7, 3), (13, .iconst 4, 1), (14, .iaload, 1), (15, .aload_n 0, 1), (16, .getfield 47, 3), (19, .iload_n 1, 1), (20, .iaload, 1), (21, .isub, 1), (22, .invokevirtual 191, 3), (25, .goto 9, 3), (28, .aload_n 0, 1), (29, .bipush 6, 2), (31, .invokevirtual 188, 3), (34, .ireturn, 1)] = true := by decide +kernel
theorem dX11_wasted_0 : decode cX11_wasted 0 = .ok (.aload_n 0, 1) := kq.at kqdX11_wasted_0 0 rfl
theorem dX11_wasted_1 : decode cX11_wasted 1 = .ok (.iload_n 1, 1) := kq.at kqdX11_wasted_0 1 rfl
theorem dX11_wasted_2 : decode cX11_wasted 2 = .ok (.invokevirtual 333, 3) := kq.at kqdX11_wasted_0 2 rfl
theorem dX11_wasted_5 : decode cX11_wasted 5 = .ok (.ifCond .eq 23, 3) := kq.at kqdX11_wasted_0 3 rfl
theorem dX11_wasted_8 : decode cX11_wasted 8 = .ok (.aload_n 0, 1) := kq.at kqdX11_wasted_0 4 rfl
theorem dX11_wasted_9 : decode cX11_wasted 9 = .ok (.aload_n 0, 1) := kq.at kqdX11_wasted_0 5 rfl
theorem dX11_wasted_10 : decode cX11_wasted 10 = .ok (.getfield 7, 3) := kq.at kqdX11_wasted_0 6 rfl
theorem dX11_wasted_13 : decode cX11_wasted 13 = .ok (.iconst 4, 1) := kq.at kqdX11_wasted_0 7 rfl
theorem dX11_wasted_14 : decode cX11_wasted 14 = .ok (.iaload, 1) := kq.at kqdX11_wasted_0 8 rfl
theorem dX11_wasted_15 : decode cX11_wasted 15 = .ok (.aload_n 0, 1) := kq.at kqdX11_wasted_0 9 rfl
theorem dX11_wasted_16 : decode cX11_wasted 16 = .ok (.getfield 47, 3) := kq.at kqdX11_wasted_0 10 rfl
theorem dX11_wasted_19 : decode cX11_wasted 19 = .ok (.iload_n 1, 1) := kq.at kqdX11_wasted_0 11 rfl
theorem dX11_wasted_20 : decode cX11_wasted 20 = .ok (.iaload, 1) := kq.at kqdX11_wasted_0 12 rfl
theorem dX11_wasted_21 : decode cX11_wasted 21 = .ok (.isub, 1) := kq.at kqdX11_wasted_0 13 rfl
theorem dX11_wasted_22 : decode cX11_wasted 22 = .ok (.invokevirtual 191, 3) := kq.at kqdX11_wasted_0 14 rfl
theorem dX11_wasted_25 : decode cX11_wasted 25 = .ok (.goto 9, 3) := kq.at kqdX11_wasted_0 15 rfl
theorem dX11_wasted_28 : decode cX11_wasted 28 = .ok (.aload_n 0, 1) := kq.at kqdX11_wasted_0 16 rfl
theorem dX11_wasted_29 : decode cX11_wasted 29 = .ok (.bipush 6, 2) := kq.at kqdX11_wasted_0 17 rfl
theorem dX11_wasted_31 : decode cX11_wasted 31 = .ok (.invokevirtual 188, 3) := kq.at kqdX11_wasted_0 18 rfl
theorem dX11_wasted_34 : decode cX11_wasted 34 = .ok (.ireturn, 1) := kq.at kqdX11_wasted_0 19 rfl
theorem kqdX11_frequent_0 : kq cX11_frequent [(0, .aload_n 0, 1), (1, .invokevirtual 306, 3), (4, .ifCond .ne 10, 3), (7, .aload_n 0, 1), (8, .bipush 6, 2), (10, .invokevirtual 188, 3), (13, .ireturn, 1), (14, .iconst (-1), 1), (15, .istore_n 1, 1), (16, .iconst 0, 1), (17, .istore_n 2, 1), (18, .iconst 1, 1), (19, .istore_n 3, 1), (20, .iload_n 3, 1), (21, .bipush 26, 2), (23, .if_icmp .gt 92, 3), (26, .iconst 0, 1), (27, .istore 4, 2), (29, .iconst 0, 1), (30, .istore 5, 2), (32, .iload 5, 2), (34, .aload_n 0, 1), (35, .getfield 7, 3), (38, .bipush 7, 2)] = true := by decide +kernel
theorem dX11_frequent_0 : decode cX11_frequent 0 = .ok (.aload_n 0, 1) := kq.at kqdX11_frequent_0 0 rfl
theorem dX11_frequent_1 : decode cX11_frequent 1 = .ok (.invokevirtual 306, 3) := kq.at kqdX11_frequent_0 1 rfl
theorem dX11_frequent_4 : decode cX11_frequent 4 = .ok (.ifCond .ne 10, 3) := kq.at kqdX11_frequent_0 2 rfl
theorem dX11_frequent_7 : decode cX11_frequent 7 = .ok (.aload_n 0, 1) := kq.at kqdX11_frequent_0 3 rfl
theorem dX11_frequent_8 : decode cX11_frequent 8 = .ok (.bipush 6, 2) := kq.at kqdX11_frequent_0 4 rfl
theorem dX11_frequent_10 : decode cX11_frequent 10 = .ok (.invokevirtual 188, 3) := kq.at kqdX11_frequent_0 5 rfl
theorem dX11_frequent_13 : decode cX11_frequent 13 = .ok (.ireturn, 1) := kq.at kqdX11_frequent_0 6 rfl
theorem dX11_frequent_14 : decode cX11_frequent 14 = .ok (.iconst (-1), 1) := kq.at kqdX11_frequent_0 7 rfl
theorem dX11_frequent_15 : decode cX11_frequent 15 = .ok (.istore_n 1, 1) := kq.at kqdX11_frequent_0 8 rfl
theorem dX11_frequent_16 : decode cX11_frequent 16 = .ok (.iconst 0, 1) := kq.at kqdX11_frequent_0 9 rfl
theorem dX11_frequent_17 : decode cX11_frequent 17 = .ok (.istore_n 2, 1) := kq.at kqdX11_frequent_0 10 rfl
theorem dX11_frequent_18 : decode cX11_frequent 18 = .ok (.iconst 1, 1) := kq.at kqdX11_frequent_0 11 rfl
theorem dX11_frequent_19 : decode cX11_frequent 19 = .ok (.istore_n 3, 1) := kq.at kqdX11_frequent_0 12 rfl
theorem dX11_frequent_20 : decode cX11_frequent 20 = .ok (.iload_n 3, 1) := kq.at kqdX11_frequent_0 13 rfl
theorem dX11_frequent_21 : decode cX11_frequent 21 = .ok (.bipush 26, 2) := kq.at kqdX11_frequent_0 14 rfl
theorem dX11_frequent_23 : decode cX11_frequent 23 = .ok (.if_icmp .gt 92, 3) := kq.at kqdX11_frequent_0 15 rfl
theorem dX11_frequent_26 : decode cX11_frequent 26 = .ok (.iconst 0, 1) := kq.at kqdX11_frequent_0 16 rfl
theorem dX11_frequent_27 : decode cX11_frequent 27 = .ok (.istore 4, 2) := kq.at kqdX11_frequent_0 17 rfl
theorem dX11_frequent_29 : decode cX11_frequent 29 = .ok (.iconst 0, 1) := kq.at kqdX11_frequent_0 18 rfl
theorem dX11_frequent_30 : decode cX11_frequent 30 = .ok (.istore 5, 2) := kq.at kqdX11_frequent_0 19 rfl
theorem dX11_frequent_32 : decode cX11_frequent 32 = .ok (.iload 5, 2) := kq.at kqdX11_frequent_0 20 rfl
theorem dX11_frequent_34 : decode cX11_frequent 34 = .ok (.aload_n 0, 1) := kq.at kqdX11_frequent_0 21 rfl
theorem dX11_frequent_35 : decode cX11_frequent 35 = .ok (.getfield 7, 3) := kq.at kqdX11_frequent_0 22 rfl
theorem dX11_frequent_38 : decode cX11_frequent 38 = .ok (.bipush 7, 2) := kq.at kqdX11_frequent_0 23 rfl
theorem kqdX11_frequent_40 : kq cX11_frequent [(40, .iaload, 1), (41, .if_icmp .ge 54, 3), (44, .iload 4, 2), (46, .aload_n 0, 1), (47, .getfield 7, 3), (50, .sipush 300, 3), (53, .iload 5, 2), (55, .iadd, 1), (56, .iaload, 1), (57, .invokestatic 260, 3), (60, .ifCond .eq 25, 3), (63, .aload_n 0, 1), (64, .getfield 7, 3), (67, .sipush 300, 3), (70, .iload 5, 2), (72, .iadd, 1), (73, .iaload, 1), (74, .invokestatic 242, 3), (77, .iload_n 3, 1), (78, .if_icmp .ne 7, 3), (81, .iconst 1, 1), (82, .goto 4, 3), (85, .iconst 0, 1), (86, .iadd, 1)] = true := by decide +kernel
theorem dX11_frequent_40 : decode cX11_frequent 40 = .ok (.iaload, 1) := kq.at kqdX11_frequent_40 0 rfl
theorem dX11_frequent_41 : decode cX11_frequent 41 = .ok (.if_icmp .ge 54, 3) := kq.at kqdX11_frequent_40 1 rfl
theorem dX11_frequent_44 : decode cX11_frequent 44 = .ok (.iload 4, 2) := kq.at kqdX11_frequent_40 2 rfl
theorem dX11_frequent_46 : decode cX11_frequent 46 = .ok (.aload_n 0, 1) := kq.at kqdX11_frequent_40 3 rfl
theorem dX11_frequent_47 : decode cX11_frequent 47 = .ok (.getfield 7, 3) := kq.at kqdX11_frequent_40 4 rfl
theorem dX11_frequent_50 : decode cX11_frequent 50 = .ok (.sipush 300, 3) := kq.at kqdX11_frequent_40 5 rfl
theorem dX11_frequent_53 : decode cX11_frequent 53 = .ok (.iload 5, 2) := kq.at kqdX11_frequent_40 6 rfl
theorem dX11_frequent_55 : decode cX11_frequent 55 = .ok (.iadd, 1) := kq.at kqdX11_frequent_40 7 rfl
theorem dX11_frequent_56 : decode cX11_frequent 56 = .ok (.iaload, 1) := kq.at kqdX11_frequent_40 8 rfl
theorem dX11_frequent_57 : decode cX11_frequent 57 = .ok (.invokestatic 260, 3) := kq.at kqdX11_frequent_40 9 rfl
theorem dX11_frequent_60 : decode cX11_frequent 60 = .ok (.ifCond .eq 25, 3) := kq.at kqdX11_frequent_40 10 rfl
theorem dX11_frequent_63 : decode cX11_frequent 63 = .ok (.aload_n 0, 1) := kq.at kqdX11_frequent_40 11 rfl
theorem dX11_frequent_64 : decode cX11_frequent 64 = .ok (.getfield 7, 3) := kq.at kqdX11_frequent_40 12 rfl
theorem dX11_frequent_67 : decode cX11_frequent 67 = .ok (.sipush 300, 3) := kq.at kqdX11_frequent_40 13 rfl
theorem dX11_frequent_70 : decode cX11_frequent 70 = .ok (.iload 5, 2) := kq.at kqdX11_frequent_40 14 rfl
theorem dX11_frequent_72 : decode cX11_frequent 72 = .ok (.iadd, 1) := kq.at kqdX11_frequent_40 15 rfl
theorem dX11_frequent_73 : decode cX11_frequent 73 = .ok (.iaload, 1) := kq.at kqdX11_frequent_40 16 rfl
theorem dX11_frequent_74 : decode cX11_frequent 74 = .ok (.invokestatic 242, 3) := kq.at kqdX11_frequent_40 17 rfl
theorem dX11_frequent_77 : decode cX11_frequent 77 = .ok (.iload_n 3, 1) := kq.at kqdX11_frequent_40 18 rfl
theorem dX11_frequent_78 : decode cX11_frequent 78 = .ok (.if_icmp .ne 7, 3) := kq.at kqdX11_frequent_40 19 rfl
theorem dX11_frequent_81 : decode cX11_frequent 81 = .ok (.iconst 1, 1) := kq.at kqdX11_frequent_40 20 rfl
theorem dX11_frequent_82 : decode cX11_frequent 82 = .ok (.goto 4, 3) := kq.at kqdX11_frequent_40 21 rfl
theorem dX11_frequent_85 : decode cX11_frequent 85 = .ok (.iconst 0, 1) := kq.at kqdX11_frequent_40 22 rfl
theorem dX11_frequent_86 : decode cX11_frequent 86 = .ok (.iadd, 1) := kq.at kqdX11_frequent_40 23 rfl
theorem kqdX11_frequent_87 : kq cX11_frequent [(87, .istore 4, 2), (89, .iinc 5 1, 3), (92, .goto (-60), 3), (95, .iload 4, 2), (97, .iload_n 2, 1), (98, .if_icmp .gt 6, 3), (101, .goto 8, 3), (104, .iload 4, 2), (106, .istore_n 2, 1), (107, .iload_n 3, 1), (108, .istore_n 1, 1), (109, .iinc 3 1, 3), (112, .goto (-92), 3), (115, .iload_n 1, 1), (116, .iconst (-1), 1), (117, .if_icmp .ne 12, 3), (120, .aload_n 0, 1), (121, .bipush 6, 2), (123, .invokevirtual 188, 3), (126, .goto 8, 3), (129, .aload_n 0, 1), (130, .iload_n 1, 1), (131, .invokevirtual 191, 3), (134, .ireturn, 1)] = true := by decide +kernel
theorem dX11_frequent_87 : decode cX11_frequent 87 = .ok (.istore 4, 2) := kq.at kqdX11_frequent_87 0 rfl
theorem dX11_frequent_89 : decode cX11_frequent 89 = .ok (.iinc 5 1, 3) := kq.at kqdX11_frequent_87 1 rfl
theorem dX11_frequent_92 : decode cX11_frequent 92 = .ok (.goto (-60), 3) := kq.at kqdX11_frequent_87 2 rfl
theorem dX11_frequent_95 : decode cX11_frequent 95 = .ok (.iload 4, 2) := kq.at kqdX11_frequent_87 3 rfl
theorem dX11_frequent_97 : decode cX11_frequent 97 = .ok (.iload_n 2, 1) := kq.at kqdX11_frequent_87 4 rfl
theorem dX11_frequent_98 : decode cX11_frequent 98 = .ok (.if_icmp .gt 6, 3) := kq.at kqdX11_frequent_87 5 rfl
theorem dX11_frequent_101 : decode cX11_frequent 101 = .ok (.goto 8, 3) := kq.at kqdX11_frequent_87 6 rfl
theorem dX11_frequent_104 : decode cX11_frequent 104 = .ok (.iload 4, 2) := kq.at kqdX11_frequent_87 7 rfl
theorem dX11_frequent_106 : decode cX11_frequent 106 = .ok (.istore_n 2, 1) := kq.at kqdX11_frequent_87 8 rfl
theorem dX11_frequent_107 : decode cX11_frequent 107 = .ok (.iload_n 3, 1) := kq.at kqdX11_frequent_87 9 rfl
theorem dX11_frequent_108 : decode cX11_frequent 108 = .ok (.istore_n 1, 1) := kq.at kqdX11_frequent_87 10 rfl
theorem dX11_frequent_109 : decode cX11_frequent 109 = .ok (.iinc 3 1, 3) := kq.at kqdX11_frequent_87 11 rfl
theorem dX11_frequent_112 : decode cX11_frequent 112 = .ok (.goto (-92), 3) := kq.at kqdX11_frequent_87 12 rfl
theorem dX11_frequent_115 : decode cX11_frequent 115 = .ok (.iload_n 1, 1) := kq.at kqdX11_frequent_87 13 rfl
theorem dX11_frequent_116 : decode cX11_frequent 116 = .ok (.iconst (-1), 1) := kq.at kqdX11_frequent_87 14 rfl
theorem dX11_frequent_117 : decode cX11_frequent 117 = .ok (.if_icmp .ne 12, 3) := kq.at kqdX11_frequent_87 15 rfl
theorem dX11_frequent_120 : decode cX11_frequent 120 = .ok (.aload_n 0, 1) := kq.at kqdX11_frequent_87 16 rfl
theorem dX11_frequent_121 : decode cX11_frequent 121 = .ok (.bipush 6, 2) := kq.at kqdX11_frequent_87 17 rfl
theorem dX11_frequent_123 : decode cX11_frequent 123 = .ok (.invokevirtual 188, 3) := kq.at kqdX11_frequent_87 18 rfl
theorem dX11_frequent_126 : decode cX11_frequent 126 = .ok (.goto 8, 3) := kq.at kqdX11_frequent_87 19 rfl
theorem dX11_frequent_129 : decode cX11_frequent 129 = .ok (.aload_n 0, 1) := kq.at kqdX11_frequent_87 20 rfl
theorem dX11_frequent_130 : decode cX11_frequent 130 = .ok (.iload_n 1, 1) := kq.at kqdX11_frequent_87 21 rfl
theorem dX11_frequent_131 : decode cX11_frequent 131 = .ok (.invokevirtual 191, 3) := kq.at kqdX11_frequent_87 22 rfl
theorem dX11_frequent_134 : decode cX11_frequent 134 = .ok (.ireturn, 1) := kq.at kqdX11_frequent_87 23 rfl
theorem kqdX11_signs_0 : kq cX11_signs [(0, .iload_n 1, 1), (1, .ifCond .lt 8, 3), (4, .iload_n 1, 1), (5, .iconst 1, 1), (6, .if_icmp .le 9, 3), (9, .aload_n 0, 1), (10, .iconst 1, 1), (11, .invokevirtual 188, 3), (14, .ireturn, 1), (15, .aload_n 0, 1), (16, .invokevirtual 306, 3), (19, .ifCond .ne 10, 3), (22, .aload_n 0, 1), (23, .bipush 6, 2), (25, .invokevirtual 188, 3), (28, .ireturn, 1), (29, .iconst 0, 1), (30, .istore_n 2, 1), (31, .iconst 0, 1), (32, .istore_n 3, 1), (33, .iload_n 3, 1), (34, .aload_n 0, 1), (35, .getfield 7, 3), (38, .bipush 7, 2)] = true := by decide +kernel
theorem dX11_signs_0 : decode cX11_signs 0 = .ok (.iload_n 1, 1) := kq.at kqdX11_signs_0 0 rfl
theorem dX11_signs_1 : decode cX11_signs 1 = .ok (.ifCond .lt 8, 3) := kq.at kqdX11_signs_0 1 rfl
theorem dX11_signs_4 : decode cX11_signs 4 = .ok (.iload_n 1, 1) := kq.at kqdX11_signs_0 2 rfl
theorem dX11_signs_5 : decode cX11_signs 5 = .ok (.iconst 1, 1) := kq.at kqdX11_signs_0 3 rfl
theorem dX11_signs_6 : decode cX11_signs 6 = .ok (.if_icmp .le 9, 3) := kq.at kqdX11_signs_0 4 rfl
theorem dX11_signs_9 : decode cX11_signs 9 = .ok (.aload_n 0, 1) := kq.at kqdX11_signs_0 5 rfl
theorem dX11_signs_10 : decode cX11_signs 10 = .ok (.iconst 1, 1) := kq.at kqdX11_signs_0 6 rfl
theorem dX11_signs_11 : decode cX11_signs 11 = .ok (.invokevirtual 188, 3) := kq.at kqdX11_signs_0 7 rfl
theorem dX11_signs_14 : decode cX11_signs 14 = .ok (.ireturn, 1) := kq.at kqdX11_signs_0 8 rfl
theorem dX11_signs_15 : decode cX11_signs 15 = .ok (.aload_n 0, 1) := kq.at kqdX11_signs_0 9 rfl
theorem dX11_signs_16 : decode cX11_signs 16 = .ok (.invokevirtual 306, 3) := kq.at kqdX11_signs_0 10 rfl
theorem dX11_signs_19 : decode cX11_signs 19 = .ok (.ifCond .ne 10, 3) := kq.at kqdX11_signs_0 11 rfl
theorem dX11_signs_22 : decode cX11_signs 22 = .ok (.aload_n 0, 1) := kq.at kqdX11_signs_0 12 rfl
theorem dX11_signs_23 : decode cX11_signs 23 = .ok (.bipush 6, 2) := kq.at kqdX11_signs_0 13 rfl
theorem dX11_signs_25 : decode cX11_signs 25 = .ok (.invokevirtual 188, 3) := kq.at kqdX11_signs_0 14 rfl
theorem dX11_signs_28 : decode cX11_signs 28 = .ok (.ireturn, 1) := kq.at kqdX11_signs_0 15 rfl
theorem dX11_signs_29 : decode cX11_signs 29 = .ok (.iconst 0, 1) := kq.at kqdX11_signs_0 16 rfl
theorem dX11_signs_30 : decode cX11_signs 30 = .ok (.istore_n 2, 1) := kq.at kqdX11_signs_0 17 rfl
theorem dX11_signs_31 : decode cX11_signs 31 = .ok (.iconst 0, 1) := kq.at kqdX11_signs_0 18 rfl
theorem dX11_signs_32 : decode cX11_signs 32 = .ok (.istore_n 3, 1) := kq.at kqdX11_signs_0 19 rfl
theorem dX11_signs_33 : decode cX11_signs 33 = .ok (.iload_n 3, 1) := kq.at kqdX11_signs_0 20 rfl
theorem dX11_signs_34 : decode cX11_signs 34 = .ok (.aload_n 0, 1) := kq.at kqdX11_signs_0 21 rfl
theorem dX11_signs_35 : decode cX11_signs 35 = .ok (.getfield 7, 3) := kq.at kqdX11_signs_0 22 rfl
theorem dX11_signs_38 : decode cX11_signs 38 = .ok (.bipush 7, 2) := kq.at kqdX11_signs_0 23 rfl
theorem kqdX11_signs_40 : kq cX11_signs [(40, .iaload, 1), (41, .if_icmp .ge 88, 3), (44, .aload_n 0, 1), (45, .getfield 7, 3), (48, .sipush 300, 3), (51, .iload_n 3, 1), (52, .iadd, 1), (53, .iaload, 1), (54, .istore 4, 2), (56, .iload_n 3, 1), (57, .ifCond .eq 21, 3), (60, .aload_n 0, 1), (61, .getfield 7, 3), (64, .sipush 300, 3), (67, .iload_n 3, 1), (68, .iadd, 1), (69, .iconst 1, 1), (70, .isub, 1), (71, .iaload, 1), (72, .invokestatic 276, 3), (75, .ifCond .ne 7, 3), (78, .iconst 1, 1), (79, .goto 4, 3), (82, .iconst 0, 1)] = true := by decide +kernel
theorem dX11_signs_40 : decode cX11_signs 40 = .ok (.iaload, 1) := kq.at kqdX11_signs_40 0 rfl
theorem dX11_signs_41 : decode cX11_signs 41 = .ok (.if_icmp .ge 88, 3) := kq.at kqdX11_signs_40 1 rfl
theorem dX11_signs_44 : decode cX11_signs 44 = .ok (.aload_n 0, 1) := kq.at kqdX11_signs_40 2 rfl
theorem dX11_signs_45 : decode cX11_signs 45 = .ok (.getfield 7, 3) := kq.at kqdX11_signs_40 3 rfl
theorem dX11_signs_48 : decode cX11_signs 48 = .ok (.sipush 300, 3) := kq.at kqdX11_signs_40 4 rfl
theorem dX11_signs_51 : decode cX11_signs 51 = .ok (.iload_n 3, 1) := kq.at kqdX11_signs_40 5 rfl
theorem dX11_signs_52 : decode cX11_signs 52 = .ok (.iadd, 1) := kq.at kqdX11_signs_40 6 rfl
theorem dX11_signs_53 : decode cX11_signs 53 = .ok (.iaload, 1) := kq.at kqdX11_signs_40 7 rfl
theorem dX11_signs_54 : decode cX11_signs 54 = .ok (.istore 4, 2) := kq.at kqdX11_signs_40 8 rfl
theorem dX11_signs_56 : decode cX11_signs 56 = .ok (.iload_n 3, 1) := kq.at kqdX11_signs_40 9 rfl
theorem dX11_signs_57 : decode cX11_signs 57 = .ok (.ifCond .eq 21, 3) := kq.at kqdX11_signs_40 10 rfl
theorem dX11_signs_60 : decode cX11_signs 60 = .ok (.aload_n 0, 1) := kq.at kqdX11_signs_40 11 rfl
theorem dX11_signs_61 : decode cX11_signs 61 = .ok (.getfield 7, 3) := kq.at kqdX11_signs_40 12 rfl
theorem dX11_signs_64 : decode cX11_signs 64 = .ok (.sipush 300, 3) := kq.at kqdX11_signs_40 13 rfl
theorem dX11_signs_67 : decode cX11_signs 67 = .ok (.iload_n 3, 1) := kq.at kqdX11_signs_40 14 rfl
theorem dX11_signs_68 : decode cX11_signs 68 = .ok (.iadd, 1) := kq.at kqdX11_signs_40 15 rfl
theorem dX11_signs_69 : decode cX11_signs 69 = .ok (.iconst 1, 1) := kq.at kqdX11_signs_40 16 rfl
theorem dX11_signs_70 : decode cX11_signs 70 = .ok (.isub, 1) := kq.at kqdX11_signs_40 17 rfl
theorem dX11_signs_71 : decode cX11_signs 71 = .ok (.iaload, 1) := kq.at kqdX11_signs_40 18 rfl
theorem dX11_signs_72 : decode cX11_signs 72 = .ok (.invokestatic 276, 3) := kq.at kqdX11_signs_40 19 rfl
theorem dX11_signs_75 : decode cX11_signs 75 = .ok (.ifCond .ne 7, 3) := kq.at kqdX11_signs_40 20 rfl
theorem dX11_signs_78 : decode cX11_signs 78 = .ok (.iconst 1, 1) := kq.at kqdX11_signs_40 21 rfl
theorem dX11_signs_79 : decode cX11_signs 79 = .ok (.goto 4, 3) := kq.at kqdX11_signs_40 22 rfl
theorem dX11_signs_82 : decode cX11_signs 82 = .ok (.iconst 0, 1) := kq.at kqdX11_signs_40 23 rfl
theorem kqdX11_signs_83 : kq cX11_signs [(83, .istore 5, 2), (85, .iload_n 2, 1), (86, .iload_n 1, 1), (87, .ifCond .ne 11, 3), (90, .iload 4, 2), (92, .invokestatic 236, 3), (95, .ifCond .ne 21, 3), (98, .iload_n 1, 1), (99, .iconst 1, 1), (100, .if_icmp .ne 20, 3), (103, .iload 4, 2), (105, .invokestatic 276, 3), (108, .ifCond .eq 12, 3), (111, .iload 5, 2), (113, .ifCond .eq 7, 3), (116, .iconst 1, 1), (117, .goto 4, 3), (120, .iconst 0, 1), (121, .iadd, 1), (122, .istore_n 2, 1), (123, .iinc 3 1, 3), (126, .goto (-93), 3), (129, .aload_n 0, 1), (130, .iload_n 2, 1)] = true := by decide +kernel
theorem dX11_signs_83 : decode cX11_signs 83 = .ok (.istore 5, 2) := kq.at kqdX11_signs_83 0 rfl
theorem dX11_signs_85 : decode cX11_signs 85 = .ok (.iload_n 2, 1) := kq.at kqdX11_signs_83 1 rfl
theorem dX11_signs_86 : decode cX11_signs 86 = .ok (.iload_n 1, 1) := kq.at kqdX11_signs_83 2 rfl
theorem dX11_signs_87 : decode cX11_signs 87 = .ok (.ifCond .ne 11, 3) := kq.at kqdX11_signs_83 3 rfl
theorem dX11_signs_90 : decode cX11_signs 90 = .ok (.iload 4, 2) := kq.at kqdX11_signs_83 4 rfl
theorem dX11_signs_92 : decode cX11_signs 92 = .ok (.invokestatic 236, 3) := kq.at kqdX11_signs_83 5 rfl
theorem dX11_signs_95 : decode cX11_signs 95 = .ok (.ifCond .ne 21, 3) := kq.at kqdX11_signs_83 6 rfl
theorem dX11_signs_98 : decode cX11_signs 98 = .ok (.iload_n 1, 1) := kq.at kqdX11_signs_83 7 rfl
theorem dX11_signs_99 : decode cX11_signs 99 = .ok (.iconst 1, 1) := kq.at kqdX11_signs_83 8 rfl
theorem dX11_signs_100 : decode cX11_signs 100 = .ok (.if_icmp .ne 20, 3) := kq.at kqdX11_signs_83 9 rfl
theorem dX11_signs_103 : decode cX11_signs 103 = .ok (.iload 4, 2) := kq.at kqdX11_signs_83 10 rfl
theorem dX11_signs_105 : decode cX11_signs 105 = .ok (.invokestatic 276, 3) := kq.at kqdX11_signs_83 11 rfl
theorem dX11_signs_108 : decode cX11_signs 108 = .ok (.ifCond .eq 12, 3) := kq.at kqdX11_signs_83 12 rfl
theorem dX11_signs_111 : decode cX11_signs 111 = .ok (.iload 5, 2) := kq.at kqdX11_signs_83 13 rfl
theorem dX11_signs_113 : decode cX11_signs 113 = .ok (.ifCond .eq 7, 3) := kq.at kqdX11_signs_83 14 rfl
theorem dX11_signs_116 : decode cX11_signs 116 = .ok (.iconst 1, 1) := kq.at kqdX11_signs_83 15 rfl
theorem dX11_signs_117 : decode cX11_signs 117 = .ok (.goto 4, 3) := kq.at kqdX11_signs_83 16 rfl
theorem dX11_signs_120 : decode cX11_signs 120 = .ok (.iconst 0, 1) := kq.at kqdX11_signs_83 17 rfl
theorem dX11_signs_121 : decode cX11_signs 121 = .ok (.iadd, 1) := kq.at kqdX11_signs_83 18 rfl
theorem dX11_signs_122 : decode cX11_signs 122 = .ok (.istore_n 2, 1) := kq.at kqdX11_signs_83 19 rfl
theorem dX11_signs_123 : decode cX11_signs 123 = .ok (.iinc 3 1, 3) := kq.at kqdX11_signs_83 20 rfl
theorem dX11_signs_126 : decode cX11_signs 126 = .ok (.goto (-93), 3) := kq.at kqdX11_signs_83 21 rfl
theorem dX11_signs_129 : decode cX11_signs 129 = .ok (.aload_n 0, 1) := kq.at kqdX11_signs_83 22 rfl
theorem dX11_signs_130 : decode cX11_signs 130 = .ok (.iload_n 2, 1) := kq.at kqdX11_signs_83 23 rfl
theorem kqdX11_signs_131 : kq cX11_signs [(131, .invokevirtual 191, 3), (134, .ireturn, 1)] = true := by decide +kernel
theorem dX11_signs_131 : decode cX11_signs 131 = .ok (.invokevirtual 191, 3) := kq.at kqdX11_signs_131 0 rfl
theorem dX11_signs_134 : decode cX11_signs 134 = .ok (.ireturn, 1) := kq.at kqdX11_signs_131 1 rfl
theorem kqdX11_pieceOf_0 : kq cX11_pieceOf [(0, .aload_n 0, 1), (1, .invokevirtual 306, 3), (4, .ifCond .eq 18, 3), (7, .iload_n 1, 1), (8, .ifCond .lt 14, 3), (11, .iload_n 1, 1), (12, .aload_n 0, 1), (13, .getfield 7, 3), (16, .bipush 8, 2), (18, .iaload, 1), (19, .if_icmp .lt 10, 3), (22, .aload_n 0, 1), (23, .bipush 6, 2), (25, .invokevirtual 188, 3), (28, .ireturn, 1), (29, .iconst 0, 1), (30, .istore_n 2, 1), (31, .iload_n 2, 1), (32, .aload_n 0, 1), (33, .getfield 7, 3), (36, .bipush 9, 2), (38, .iaload, 1), (39, .if_icmp .ge 49, 3), (42, .iload_n 1, 1)] = true := by decide +kernel
theorem dX11_pieceOf_0 : decode cX11_pieceOf 0 = .ok (.aload_n 0, 1) := kq.at kqdX11_pieceOf_0 0 rfl
theorem dX11_pieceOf_1 : decode cX11_pieceOf 1 = .ok (.invokevirtual 306, 3) := kq.at kqdX11_pieceOf_0 1 rfl
theorem dX11_pieceOf_4 : decode cX11_pieceOf 4 = .ok (.ifCond .eq 18, 3) := kq.at kqdX11_pieceOf_0 2 rfl
theorem dX11_pieceOf_7 : decode cX11_pieceOf 7 = .ok (.iload_n 1, 1) := kq.at kqdX11_pieceOf_0 3 rfl
theorem dX11_pieceOf_8 : decode cX11_pieceOf 8 = .ok (.ifCond .lt 14, 3) := kq.at kqdX11_pieceOf_0 4 rfl
theorem dX11_pieceOf_11 : decode cX11_pieceOf 11 = .ok (.iload_n 1, 1) := kq.at kqdX11_pieceOf_0 5 rfl
theorem dX11_pieceOf_12 : decode cX11_pieceOf 12 = .ok (.aload_n 0, 1) := kq.at kqdX11_pieceOf_0 6 rfl
theorem dX11_pieceOf_13 : decode cX11_pieceOf 13 = .ok (.getfield 7, 3) := kq.at kqdX11_pieceOf_0 7 rfl
theorem dX11_pieceOf_16 : decode cX11_pieceOf 16 = .ok (.bipush 8, 2) := kq.at kqdX11_pieceOf_0 8 rfl
theorem dX11_pieceOf_18 : decode cX11_pieceOf 18 = .ok (.iaload, 1) := kq.at kqdX11_pieceOf_0 9 rfl
theorem dX11_pieceOf_19 : decode cX11_pieceOf 19 = .ok (.if_icmp .lt 10, 3) := kq.at kqdX11_pieceOf_0 10 rfl
theorem dX11_pieceOf_22 : decode cX11_pieceOf 22 = .ok (.aload_n 0, 1) := kq.at kqdX11_pieceOf_0 11 rfl
theorem dX11_pieceOf_23 : decode cX11_pieceOf 23 = .ok (.bipush 6, 2) := kq.at kqdX11_pieceOf_0 12 rfl
theorem dX11_pieceOf_25 : decode cX11_pieceOf 25 = .ok (.invokevirtual 188, 3) := kq.at kqdX11_pieceOf_0 13 rfl
theorem dX11_pieceOf_28 : decode cX11_pieceOf 28 = .ok (.ireturn, 1) := kq.at kqdX11_pieceOf_0 14 rfl
theorem dX11_pieceOf_29 : decode cX11_pieceOf 29 = .ok (.iconst 0, 1) := kq.at kqdX11_pieceOf_0 15 rfl
theorem dX11_pieceOf_30 : decode cX11_pieceOf 30 = .ok (.istore_n 2, 1) := kq.at kqdX11_pieceOf_0 16 rfl
theorem dX11_pieceOf_31 : decode cX11_pieceOf 31 = .ok (.iload_n 2, 1) := kq.at kqdX11_pieceOf_0 17 rfl
theorem dX11_pieceOf_32 : decode cX11_pieceOf 32 = .ok (.aload_n 0, 1) := kq.at kqdX11_pieceOf_0 18 rfl
theorem dX11_pieceOf_33 : decode cX11_pieceOf 33 = .ok (.getfield 7, 3) := kq.at kqdX11_pieceOf_0 19 rfl
theorem dX11_pieceOf_36 : decode cX11_pieceOf 36 = .ok (.bipush 9, 2) := kq.at kqdX11_pieceOf_0 20 rfl
theorem dX11_pieceOf_38 : decode cX11_pieceOf 38 = .ok (.iaload, 1) := kq.at kqdX11_pieceOf_0 21 rfl
theorem dX11_pieceOf_39 : decode cX11_pieceOf 39 = .ok (.if_icmp .ge 49, 3) := kq.at kqdX11_pieceOf_0 22 rfl
theorem dX11_pieceOf_42 : decode cX11_pieceOf 42 = .ok (.iload_n 1, 1) := kq.at kqdX11_pieceOf_0 23 rfl
theorem kqdX11_pieceOf_43 : kq cX11_pieceOf [(43, .aload_n 0, 1), (44, .getfield 7, 3), (47, .sipush 1850, 3), (50, .iload_n 2, 1), (51, .iadd, 1), (52, .iaload, 1), (53, .if_icmp .lt 29, 3), (56, .iload_n 1, 1), (57, .aload_n 0, 1), (58, .getfield 7, 3), (61, .sipush 1850, 3), (64, .iload_n 2, 1), (65, .iadd, 1), (66, .iaload, 1), (67, .aload_n 0, 1), (68, .iload_n 2, 1), (69, .invokevirtual 321, 3), (72, .iadd, 1), (73, .if_icmp .ge 9, 3), (76, .aload_n 0, 1), (77, .iload_n 2, 1), (78, .invokevirtual 191, 3), (81, .ireturn, 1), (82, .iinc 2 1, 3)] = true := by decide +kernel
theorem dX11_pieceOf_43 : decode cX11_pieceOf 43 = .ok (.aload_n 0, 1) := kq.at kqdX11_pieceOf_43 0 rfl
theorem dX11_pieceOf_44 : decode cX11_pieceOf 44 = .ok (.getfield 7, 3) := kq.at kqdX11_pieceOf_43 1 rfl
theorem dX11_pieceOf_47 : decode cX11_pieceOf 47 = .ok (.sipush 1850, 3) := kq.at kqdX11_pieceOf_43 2 rfl
theorem dX11_pieceOf_50 : decode cX11_pieceOf 50 = .ok (.iload_n 2, 1) := kq.at kqdX11_pieceOf_43 3 rfl
theorem dX11_pieceOf_51 : decode cX11_pieceOf 51 = .ok (.iadd, 1) := kq.at kqdX11_pieceOf_43 4 rfl
theorem dX11_pieceOf_52 : decode cX11_pieceOf 52 = .ok (.iaload, 1) := kq.at kqdX11_pieceOf_43 5 rfl
theorem dX11_pieceOf_53 : decode cX11_pieceOf 53 = .ok (.if_icmp .lt 29, 3) := kq.at kqdX11_pieceOf_43 6 rfl
theorem dX11_pieceOf_56 : decode cX11_pieceOf 56 = .ok (.iload_n 1, 1) := kq.at kqdX11_pieceOf_43 7 rfl
theorem dX11_pieceOf_57 : decode cX11_pieceOf 57 = .ok (.aload_n 0, 1) := kq.at kqdX11_pieceOf_43 8 rfl
theorem dX11_pieceOf_58 : decode cX11_pieceOf 58 = .ok (.getfield 7, 3) := kq.at kqdX11_pieceOf_43 9 rfl
theorem dX11_pieceOf_61 : decode cX11_pieceOf 61 = .ok (.sipush 1850, 3) := kq.at kqdX11_pieceOf_43 10 rfl
theorem dX11_pieceOf_64 : decode cX11_pieceOf 64 = .ok (.iload_n 2, 1) := kq.at kqdX11_pieceOf_43 11 rfl
theorem dX11_pieceOf_65 : decode cX11_pieceOf 65 = .ok (.iadd, 1) := kq.at kqdX11_pieceOf_43 12 rfl
theorem dX11_pieceOf_66 : decode cX11_pieceOf 66 = .ok (.iaload, 1) := kq.at kqdX11_pieceOf_43 13 rfl
theorem dX11_pieceOf_67 : decode cX11_pieceOf 67 = .ok (.aload_n 0, 1) := kq.at kqdX11_pieceOf_43 14 rfl
theorem dX11_pieceOf_68 : decode cX11_pieceOf 68 = .ok (.iload_n 2, 1) := kq.at kqdX11_pieceOf_43 15 rfl
theorem dX11_pieceOf_69 : decode cX11_pieceOf 69 = .ok (.invokevirtual 321, 3) := kq.at kqdX11_pieceOf_43 16 rfl
theorem dX11_pieceOf_72 : decode cX11_pieceOf 72 = .ok (.iadd, 1) := kq.at kqdX11_pieceOf_43 17 rfl
theorem dX11_pieceOf_73 : decode cX11_pieceOf 73 = .ok (.if_icmp .ge 9, 3) := kq.at kqdX11_pieceOf_43 18 rfl
theorem dX11_pieceOf_76 : decode cX11_pieceOf 76 = .ok (.aload_n 0, 1) := kq.at kqdX11_pieceOf_43 19 rfl
theorem dX11_pieceOf_77 : decode cX11_pieceOf 77 = .ok (.iload_n 2, 1) := kq.at kqdX11_pieceOf_43 20 rfl
theorem dX11_pieceOf_78 : decode cX11_pieceOf 78 = .ok (.invokevirtual 191, 3) := kq.at kqdX11_pieceOf_43 21 rfl
theorem dX11_pieceOf_81 : decode cX11_pieceOf 81 = .ok (.ireturn, 1) := kq.at kqdX11_pieceOf_43 22 rfl
theorem dX11_pieceOf_82 : decode cX11_pieceOf 82 = .ok (.iinc 2 1, 3) := kq.at kqdX11_pieceOf_43 23 rfl
theorem kqdX11_pieceOf_85 : kq cX11_pieceOf [(85, .goto (-54), 3), (88, .aload_n 0, 1), (89, .bipush 6, 2), (91, .invokevirtual 188, 3), (94, .ireturn, 1)] = true := by decide +kernel
theorem dX11_pieceOf_85 : decode cX11_pieceOf 85 = .ok (.goto (-54), 3) := kq.at kqdX11_pieceOf_85 0 rfl
theorem dX11_pieceOf_88 : decode cX11_pieceOf 88 = .ok (.aload_n 0, 1) := kq.at kqdX11_pieceOf_85 1 rfl
theorem dX11_pieceOf_89 : decode cX11_pieceOf 89 = .ok (.bipush 6, 2) := kq.at kqdX11_pieceOf_85 2 rfl
theorem dX11_pieceOf_91 : decode cX11_pieceOf 91 = .ok (.invokevirtual 188, 3) := kq.at kqdX11_pieceOf_85 3 rfl
theorem dX11_pieceOf_94 : decode cX11_pieceOf 94 = .ok (.ireturn, 1) := kq.at kqdX11_pieceOf_85 4 rfl
theorem kqdX11_plainOf_0 : kq cX11_plainOf [(0, .aload_n 0, 1), (1, .getfield 7, 3), (4, .bipush 8, 2), (6, .iaload, 1), (7, .aload_n 0, 1), (8, .getfield 7, 3), (11, .bipush 11, 2), (13, .iaload, 1), (14, .isub, 1), (15, .istore_n 1, 1), (16, .iconst 0, 1), (17, .istore_n 2, 1), (18, .iload_n 2, 1), (19, .aload_n 0, 1), (20, .getfield 7, 3), (23, .bipush 7, 2), (25, .iaload, 1), (26, .if_icmp .ge 68, 3), (29, .aload_n 0, 1), (30, .getfield 7, 3), (33, .sipush 300, 3), (36, .iload_n 2, 1), (37, .iadd, 1), (38, .iaload, 1)] = true := by decide +kernel
theorem dX11_plainOf_0 : decode cX11_plainOf 0 = .ok (.aload_n 0, 1) := kq.at kqdX11_plainOf_0 0 rfl
theorem dX11_plainOf_1 : decode cX11_plainOf 1 = .ok (.getfield 7, 3) := kq.at kqdX11_plainOf_0 1 rfl
theorem dX11_plainOf_4 : decode cX11_plainOf 4 = .ok (.bipush 8, 2) := kq.at kqdX11_plainOf_0 2 rfl
theorem dX11_plainOf_6 : decode cX11_plainOf 6 = .ok (.iaload, 1) := kq.at kqdX11_plainOf_0 3 rfl
theorem dX11_plainOf_7 : decode cX11_plainOf 7 = .ok (.aload_n 0, 1) := kq.at kqdX11_plainOf_0 4 rfl
theorem dX11_plainOf_8 : decode cX11_plainOf 8 = .ok (.getfield 7, 3) := kq.at kqdX11_plainOf_0 5 rfl
theorem dX11_plainOf_11 : decode cX11_plainOf 11 = .ok (.bipush 11, 2) := kq.at kqdX11_plainOf_0 6 rfl
theorem dX11_plainOf_13 : decode cX11_plainOf 13 = .ok (.iaload, 1) := kq.at kqdX11_plainOf_0 7 rfl
theorem dX11_plainOf_14 : decode cX11_plainOf 14 = .ok (.isub, 1) := kq.at kqdX11_plainOf_0 8 rfl
theorem dX11_plainOf_15 : decode cX11_plainOf 15 = .ok (.istore_n 1, 1) := kq.at kqdX11_plainOf_0 9 rfl
theorem dX11_plainOf_16 : decode cX11_plainOf 16 = .ok (.iconst 0, 1) := kq.at kqdX11_plainOf_0 10 rfl
theorem dX11_plainOf_17 : decode cX11_plainOf 17 = .ok (.istore_n 2, 1) := kq.at kqdX11_plainOf_0 11 rfl
theorem dX11_plainOf_18 : decode cX11_plainOf 18 = .ok (.iload_n 2, 1) := kq.at kqdX11_plainOf_0 12 rfl
theorem dX11_plainOf_19 : decode cX11_plainOf 19 = .ok (.aload_n 0, 1) := kq.at kqdX11_plainOf_0 13 rfl
theorem dX11_plainOf_20 : decode cX11_plainOf 20 = .ok (.getfield 7, 3) := kq.at kqdX11_plainOf_0 14 rfl
theorem dX11_plainOf_23 : decode cX11_plainOf 23 = .ok (.bipush 7, 2) := kq.at kqdX11_plainOf_0 15 rfl
theorem dX11_plainOf_25 : decode cX11_plainOf 25 = .ok (.iaload, 1) := kq.at kqdX11_plainOf_0 16 rfl
theorem dX11_plainOf_26 : decode cX11_plainOf 26 = .ok (.if_icmp .ge 68, 3) := kq.at kqdX11_plainOf_0 17 rfl
theorem dX11_plainOf_29 : decode cX11_plainOf 29 = .ok (.aload_n 0, 1) := kq.at kqdX11_plainOf_0 18 rfl
theorem dX11_plainOf_30 : decode cX11_plainOf 30 = .ok (.getfield 7, 3) := kq.at kqdX11_plainOf_0 19 rfl
theorem dX11_plainOf_33 : decode cX11_plainOf 33 = .ok (.sipush 300, 3) := kq.at kqdX11_plainOf_0 20 rfl
theorem dX11_plainOf_36 : decode cX11_plainOf 36 = .ok (.iload_n 2, 1) := kq.at kqdX11_plainOf_0 21 rfl
theorem dX11_plainOf_37 : decode cX11_plainOf 37 = .ok (.iadd, 1) := kq.at kqdX11_plainOf_0 22 rfl
theorem dX11_plainOf_38 : decode cX11_plainOf 38 = .ok (.iaload, 1) := kq.at kqdX11_plainOf_0 23 rfl
theorem kqdX11_plainOf_39 : kq cX11_plainOf [(39, .invokestatic 260, 3), (42, .ifCond .ne 6, 3), (45, .goto 43, 3), (48, .aload_n 0, 1), (49, .aload_n 0, 1), (50, .getfield 7, 3), (53, .sipush 300, 3), (56, .iload_n 2, 1), (57, .iadd, 1), (58, .iaload, 1), (59, .invokestatic 242, 3), (62, .aload_n 0, 1), (63, .getfield 7, 3), (66, .bipush 6, 2), (68, .iaload, 1), (69, .invokevirtual 288, 3), (72, .istore_n 3, 1), (73, .iload_n 3, 1), (74, .iconst (-1), 1), (75, .if_icmp .ne 5, 3), (78, .iconst (-1), 1), (79, .ireturn, 1), (80, .iload_n 1, 1), (81, .aload_n 0, 1)] = true := by decide +kernel
theorem dX11_plainOf_39 : decode cX11_plainOf 39 = .ok (.invokestatic 260, 3) := kq.at kqdX11_plainOf_39 0 rfl
theorem dX11_plainOf_42 : decode cX11_plainOf 42 = .ok (.ifCond .ne 6, 3) := kq.at kqdX11_plainOf_39 1 rfl
theorem dX11_plainOf_45 : decode cX11_plainOf 45 = .ok (.goto 43, 3) := kq.at kqdX11_plainOf_39 2 rfl
theorem dX11_plainOf_48 : decode cX11_plainOf 48 = .ok (.aload_n 0, 1) := kq.at kqdX11_plainOf_39 3 rfl
theorem dX11_plainOf_49 : decode cX11_plainOf 49 = .ok (.aload_n 0, 1) := kq.at kqdX11_plainOf_39 4 rfl
theorem dX11_plainOf_50 : decode cX11_plainOf 50 = .ok (.getfield 7, 3) := kq.at kqdX11_plainOf_39 5 rfl
theorem dX11_plainOf_53 : decode cX11_plainOf 53 = .ok (.sipush 300, 3) := kq.at kqdX11_plainOf_39 6 rfl
theorem dX11_plainOf_56 : decode cX11_plainOf 56 = .ok (.iload_n 2, 1) := kq.at kqdX11_plainOf_39 7 rfl
theorem dX11_plainOf_57 : decode cX11_plainOf 57 = .ok (.iadd, 1) := kq.at kqdX11_plainOf_39 8 rfl
theorem dX11_plainOf_58 : decode cX11_plainOf 58 = .ok (.iaload, 1) := kq.at kqdX11_plainOf_39 9 rfl
theorem dX11_plainOf_59 : decode cX11_plainOf 59 = .ok (.invokestatic 242, 3) := kq.at kqdX11_plainOf_39 10 rfl
theorem dX11_plainOf_62 : decode cX11_plainOf 62 = .ok (.aload_n 0, 1) := kq.at kqdX11_plainOf_39 11 rfl
theorem dX11_plainOf_63 : decode cX11_plainOf 63 = .ok (.getfield 7, 3) := kq.at kqdX11_plainOf_39 12 rfl
theorem dX11_plainOf_66 : decode cX11_plainOf 66 = .ok (.bipush 6, 2) := kq.at kqdX11_plainOf_39 13 rfl
theorem dX11_plainOf_68 : decode cX11_plainOf 68 = .ok (.iaload, 1) := kq.at kqdX11_plainOf_39 14 rfl
theorem dX11_plainOf_69 : decode cX11_plainOf 69 = .ok (.invokevirtual 288, 3) := kq.at kqdX11_plainOf_39 15 rfl
theorem dX11_plainOf_72 : decode cX11_plainOf 72 = .ok (.istore_n 3, 1) := kq.at kqdX11_plainOf_39 16 rfl
theorem dX11_plainOf_73 : decode cX11_plainOf 73 = .ok (.iload_n 3, 1) := kq.at kqdX11_plainOf_39 17 rfl
theorem dX11_plainOf_74 : decode cX11_plainOf 74 = .ok (.iconst (-1), 1) := kq.at kqdX11_plainOf_39 18 rfl
theorem dX11_plainOf_75 : decode cX11_plainOf 75 = .ok (.if_icmp .ne 5, 3) := kq.at kqdX11_plainOf_39 19 rfl
theorem dX11_plainOf_78 : decode cX11_plainOf 78 = .ok (.iconst (-1), 1) := kq.at kqdX11_plainOf_39 20 rfl
theorem dX11_plainOf_79 : decode cX11_plainOf 79 = .ok (.ireturn, 1) := kq.at kqdX11_plainOf_39 21 rfl
theorem dX11_plainOf_80 : decode cX11_plainOf 80 = .ok (.iload_n 1, 1) := kq.at kqdX11_plainOf_39 22 rfl
theorem dX11_plainOf_81 : decode cX11_plainOf 81 = .ok (.aload_n 0, 1) := kq.at kqdX11_plainOf_39 23 rfl
theorem kqdX11_plainOf_82 : kq cX11_plainOf [(82, .iload_n 3, 1), (83, .invokevirtual 300, 3), (86, .iadd, 1), (87, .istore_n 1, 1), (88, .iinc 2 1, 3), (91, .goto (-73), 3), (94, .iload_n 1, 1), (95, .ireturn, 1)] = true := by decide +kernel
theorem dX11_plainOf_82 : decode cX11_plainOf 82 = .ok (.iload_n 3, 1) := kq.at kqdX11_plainOf_82 0 rfl
theorem dX11_plainOf_83 : decode cX11_plainOf 83 = .ok (.invokevirtual 300, 3) := kq.at kqdX11_plainOf_82 1 rfl
theorem dX11_plainOf_86 : decode cX11_plainOf 86 = .ok (.iadd, 1) := kq.at kqdX11_plainOf_82 2 rfl
theorem dX11_plainOf_87 : decode cX11_plainOf 87 = .ok (.istore_n 1, 1) := kq.at kqdX11_plainOf_82 3 rfl
theorem dX11_plainOf_88 : decode cX11_plainOf 88 = .ok (.iinc 2 1, 3) := kq.at kqdX11_plainOf_82 4 rfl
theorem dX11_plainOf_91 : decode cX11_plainOf 91 = .ok (.goto (-73), 3) := kq.at kqdX11_plainOf_82 5 rfl
theorem dX11_plainOf_94 : decode cX11_plainOf 94 = .ok (.iload_n 1, 1) := kq.at kqdX11_plainOf_82 6 rfl
theorem dX11_plainOf_95 : decode cX11_plainOf 95 = .ok (.ireturn, 1) := kq.at kqdX11_plainOf_82 7 rfl
theorem kqdX11_saved_0 : kq cX11_saved [(0, .aload_n 0, 1), (1, .invokevirtual 306, 3), (4, .ifCond .ne 10, 3), (7, .aload_n 0, 1), (8, .bipush 6, 2), (10, .invokevirtual 188, 3), (13, .ireturn, 1), (14, .aload_n 0, 1), (15, .invokevirtual 359, 3), (18, .iconst (-1), 1), (19, .if_icmp .ne 12, 3), (22, .aload_n 0, 1), (23, .bipush 7, 2), (25, .invokevirtual 188, 3), (28, .goto 19, 3), (31, .aload_n 0, 1), (32, .aload_n 0, 1), (33, .invokevirtual 359, 3), (36, .aload_n 0, 1), (37, .getfield 7, 3), (40, .bipush 8, 2), (42, .iaload, 1), (43, .isub, 1), (44, .invokevirtual 191, 3)] = true := by decide +kernel
theorem dX11_saved_0 : decode cX11_saved 0 = .ok (.aload_n 0, 1) := kq.at kqdX11_saved_0 0 rfl
theorem dX11_saved_1 : decode cX11_saved 1 = .ok (.invokevirtual 306, 3) := kq.at kqdX11_saved_0 1 rfl
theorem dX11_saved_4 : decode cX11_saved 4 = .ok (.ifCond .ne 10, 3) := kq.at kqdX11_saved_0 2 rfl
theorem dX11_saved_7 : decode cX11_saved 7 = .ok (.aload_n 0, 1) := kq.at kqdX11_saved_0 3 rfl
theorem dX11_saved_8 : decode cX11_saved 8 = .ok (.bipush 6, 2) := kq.at kqdX11_saved_0 4 rfl
theorem dX11_saved_10 : decode cX11_saved 10 = .ok (.invokevirtual 188, 3) := kq.at kqdX11_saved_0 5 rfl
theorem dX11_saved_13 : decode cX11_saved 13 = .ok (.ireturn, 1) := kq.at kqdX11_saved_0 6 rfl
theorem dX11_saved_14 : decode cX11_saved 14 = .ok (.aload_n 0, 1) := kq.at kqdX11_saved_0 7 rfl
theorem dX11_saved_15 : decode cX11_saved 15 = .ok (.invokevirtual 359, 3) := kq.at kqdX11_saved_0 8 rfl
theorem dX11_saved_18 : decode cX11_saved 18 = .ok (.iconst (-1), 1) := kq.at kqdX11_saved_0 9 rfl
theorem dX11_saved_19 : decode cX11_saved 19 = .ok (.if_icmp .ne 12, 3) := kq.at kqdX11_saved_0 10 rfl
theorem dX11_saved_22 : decode cX11_saved 22 = .ok (.aload_n 0, 1) := kq.at kqdX11_saved_0 11 rfl
theorem dX11_saved_23 : decode cX11_saved 23 = .ok (.bipush 7, 2) := kq.at kqdX11_saved_0 12 rfl
theorem dX11_saved_25 : decode cX11_saved 25 = .ok (.invokevirtual 188, 3) := kq.at kqdX11_saved_0 13 rfl
theorem dX11_saved_28 : decode cX11_saved 28 = .ok (.goto 19, 3) := kq.at kqdX11_saved_0 14 rfl
theorem dX11_saved_31 : decode cX11_saved 31 = .ok (.aload_n 0, 1) := kq.at kqdX11_saved_0 15 rfl
theorem dX11_saved_32 : decode cX11_saved 32 = .ok (.aload_n 0, 1) := kq.at kqdX11_saved_0 16 rfl
theorem dX11_saved_33 : decode cX11_saved 33 = .ok (.invokevirtual 359, 3) := kq.at kqdX11_saved_0 17 rfl
theorem dX11_saved_36 : decode cX11_saved 36 = .ok (.aload_n 0, 1) := kq.at kqdX11_saved_0 18 rfl
theorem dX11_saved_37 : decode cX11_saved 37 = .ok (.getfield 7, 3) := kq.at kqdX11_saved_0 19 rfl
theorem dX11_saved_40 : decode cX11_saved 40 = .ok (.bipush 8, 2) := kq.at kqdX11_saved_0 20 rfl
theorem dX11_saved_42 : decode cX11_saved 42 = .ok (.iaload, 1) := kq.at kqdX11_saved_0 21 rfl
theorem dX11_saved_43 : decode cX11_saved 43 = .ok (.isub, 1) := kq.at kqdX11_saved_0 22 rfl
theorem dX11_saved_44 : decode cX11_saved 44 = .ok (.invokevirtual 191, 3) := kq.at kqdX11_saved_0 23 rfl
theorem dX11_saved_47 : decode cX11_saved 47 = .ok (.ireturn, 1) := by decide +kernel
theorem kqdX11_plain_0 : kq cX11_plain [(0, .aload_n 0, 1), (1, .invokevirtual 306, 3), (4, .ifCond .ne 10, 3), (7, .aload_n 0, 1), (8, .bipush 6, 2), (10, .invokevirtual 188, 3), (13, .ireturn, 1), (14, .aload_n 0, 1), (15, .invokevirtual 359, 3), (18, .iconst (-1), 1), (19, .if_icmp .ne 12, 3), (22, .aload_n 0, 1), (23, .bipush 7, 2), (25, .invokevirtual 188, 3), (28, .goto 11, 3), (31, .aload_n 0, 1), (32, .aload_n 0, 1), (33, .invokevirtual 359, 3), (36, .invokevirtual 191, 3), (39, .ireturn, 1)] = true := by decide +kernel
theorem dX11_plain_0 : decode cX11_plain 0 = .ok (.aload_n 0, 1) := kq.at kqdX11_plain_0 0 rfl
theorem dX11_plain_1 : decode cX11_plain 1 = .ok (.invokevirtual 306, 3) := kq.at kqdX11_plain_0 1 rfl
theorem dX11_plain_4 : decode cX11_plain 4 = .ok (.ifCond .ne 10, 3) := kq.at kqdX11_plain_0 2 rfl
theorem dX11_plain_7 : decode cX11_plain 7 = .ok (.aload_n 0, 1) := kq.at kqdX11_plain_0 3 rfl
theorem dX11_plain_8 : decode cX11_plain 8 = .ok (.bipush 6, 2) := kq.at kqdX11_plain_0 4 rfl
theorem dX11_plain_10 : decode cX11_plain 10 = .ok (.invokevirtual 188, 3) := kq.at kqdX11_plain_0 5 rfl
theorem dX11_plain_13 : decode cX11_plain 13 = .ok (.ireturn, 1) := kq.at kqdX11_plain_0 6 rfl
theorem dX11_plain_14 : decode cX11_plain 14 = .ok (.aload_n 0, 1) := kq.at kqdX11_plain_0 7 rfl
theorem dX11_plain_15 : decode cX11_plain 15 = .ok (.invokevirtual 359, 3) := kq.at kqdX11_plain_0 8 rfl
theorem dX11_plain_18 : decode cX11_plain 18 = .ok (.iconst (-1), 1) := kq.at kqdX11_plain_0 9 rfl
theorem dX11_plain_19 : decode cX11_plain 19 = .ok (.if_icmp .ne 12, 3) := kq.at kqdX11_plain_0 10 rfl
theorem dX11_plain_22 : decode cX11_plain 22 = .ok (.aload_n 0, 1) := kq.at kqdX11_plain_0 11 rfl
theorem dX11_plain_23 : decode cX11_plain 23 = .ok (.bipush 7, 2) := kq.at kqdX11_plain_0 12 rfl
theorem dX11_plain_25 : decode cX11_plain 25 = .ok (.invokevirtual 188, 3) := kq.at kqdX11_plain_0 13 rfl
theorem dX11_plain_28 : decode cX11_plain 28 = .ok (.goto 11, 3) := kq.at kqdX11_plain_0 14 rfl
theorem dX11_plain_31 : decode cX11_plain 31 = .ok (.aload_n 0, 1) := kq.at kqdX11_plain_0 15 rfl
theorem dX11_plain_32 : decode cX11_plain 32 = .ok (.aload_n 0, 1) := kq.at kqdX11_plain_0 16 rfl
theorem dX11_plain_33 : decode cX11_plain 33 = .ok (.invokevirtual 359, 3) := kq.at kqdX11_plain_0 17 rfl
theorem dX11_plain_36 : decode cX11_plain 36 = .ok (.invokevirtual 191, 3) := kq.at kqdX11_plain_0 18 rfl
theorem dX11_plain_39 : decode cX11_plain 39 = .ok (.ireturn, 1) := kq.at kqdX11_plain_0 19 rfl
theorem kqdX11_leastOf_0 : kq cX11_leastOf [(0, .aload_n 0, 1), (1, .getfield 59, 3), (4, .iload_n 2, 1), (5, .iconst 0, 1), (6, .iastore, 1), (7, .iload_n 2, 1), (8, .iconst 1, 1), (9, .isub, 1), (10, .istore_n 3, 1), (11, .iload_n 3, 1), (12, .iload_n 1, 1), (13, .if_icmp .lt 122, 3), (16, .aload_n 0, 1), (17, .getfield 59, 3), (20, .iload_n 3, 1), (21, .ldc_w 362, 3), (24, .iastore, 1), (25, .iconst 0, 1), (26, .istore 4, 2), (28, .iload 4, 2), (30, .aload_n 0, 1), (31, .getfield 7, 3), (34, .iconst 0, 1), (35, .iaload, 1)] = true := by decide +kernel
theorem dX11_leastOf_0 : decode cX11_leastOf 0 = .ok (.aload_n 0, 1) := kq.at kqdX11_leastOf_0 0 rfl
theorem dX11_leastOf_1 : decode cX11_leastOf 1 = .ok (.getfield 59, 3) := kq.at kqdX11_leastOf_0 1 rfl
theorem dX11_leastOf_4 : decode cX11_leastOf 4 = .ok (.iload_n 2, 1) := kq.at kqdX11_leastOf_0 2 rfl
theorem dX11_leastOf_5 : decode cX11_leastOf 5 = .ok (.iconst 0, 1) := kq.at kqdX11_leastOf_0 3 rfl
theorem dX11_leastOf_6 : decode cX11_leastOf 6 = .ok (.iastore, 1) := kq.at kqdX11_leastOf_0 4 rfl
theorem dX11_leastOf_7 : decode cX11_leastOf 7 = .ok (.iload_n 2, 1) := kq.at kqdX11_leastOf_0 5 rfl
theorem dX11_leastOf_8 : decode cX11_leastOf 8 = .ok (.iconst 1, 1) := kq.at kqdX11_leastOf_0 6 rfl
theorem dX11_leastOf_9 : decode cX11_leastOf 9 = .ok (.isub, 1) := kq.at kqdX11_leastOf_0 7 rfl
theorem dX11_leastOf_10 : decode cX11_leastOf 10 = .ok (.istore_n 3, 1) := kq.at kqdX11_leastOf_0 8 rfl
theorem dX11_leastOf_11 : decode cX11_leastOf 11 = .ok (.iload_n 3, 1) := kq.at kqdX11_leastOf_0 9 rfl
theorem dX11_leastOf_12 : decode cX11_leastOf 12 = .ok (.iload_n 1, 1) := kq.at kqdX11_leastOf_0 10 rfl
theorem dX11_leastOf_13 : decode cX11_leastOf 13 = .ok (.if_icmp .lt 122, 3) := kq.at kqdX11_leastOf_0 11 rfl
theorem dX11_leastOf_16 : decode cX11_leastOf 16 = .ok (.aload_n 0, 1) := kq.at kqdX11_leastOf_0 12 rfl
theorem dX11_leastOf_17 : decode cX11_leastOf 17 = .ok (.getfield 59, 3) := kq.at kqdX11_leastOf_0 13 rfl
theorem dX11_leastOf_20 : decode cX11_leastOf 20 = .ok (.iload_n 3, 1) := kq.at kqdX11_leastOf_0 14 rfl
theorem dX11_leastOf_21 : decode cX11_leastOf 21 = .ok (.ldc_w 362, 3) := kq.at kqdX11_leastOf_0 15 rfl
theorem dX11_leastOf_24 : decode cX11_leastOf 24 = .ok (.iastore, 1) := kq.at kqdX11_leastOf_0 16 rfl
theorem dX11_leastOf_25 : decode cX11_leastOf 25 = .ok (.iconst 0, 1) := kq.at kqdX11_leastOf_0 17 rfl
theorem dX11_leastOf_26 : decode cX11_leastOf 26 = .ok (.istore 4, 2) := kq.at kqdX11_leastOf_0 18 rfl
theorem dX11_leastOf_28 : decode cX11_leastOf 28 = .ok (.iload 4, 2) := kq.at kqdX11_leastOf_0 19 rfl
theorem dX11_leastOf_30 : decode cX11_leastOf 30 = .ok (.aload_n 0, 1) := kq.at kqdX11_leastOf_0 20 rfl
theorem dX11_leastOf_31 : decode cX11_leastOf 31 = .ok (.getfield 7, 3) := kq.at kqdX11_leastOf_0 21 rfl
theorem dX11_leastOf_34 : decode cX11_leastOf 34 = .ok (.iconst 0, 1) := kq.at kqdX11_leastOf_0 22 rfl
theorem dX11_leastOf_35 : decode cX11_leastOf 35 = .ok (.iaload, 1) := kq.at kqdX11_leastOf_0 23 rfl
theorem kqdX11_leastOf_36 : kq cX11_leastOf [(36, .if_icmp .ge 93, 3), (39, .aload_n 0, 1), (40, .getfield 7, 3), (43, .bipush 6, 2), (45, .iaload, 1), (46, .iload 4, 2), (48, .invokestatic 249, 3), (51, .ifCond .ne 72, 3), (54, .aload_n 0, 1), (55, .iload 4, 2), (57, .iload_n 3, 1), (58, .iload_n 1, 1), (59, .iload_n 2, 1), (60, .invokevirtual 252, 3), (63, .ifCond .eq 60, 3), (66, .aload_n 0, 1), (67, .getfield 59, 3), (70, .iload_n 3, 1), (71, .aload_n 0, 1), (72, .getfield 59, 3)] = true := by decide +kernel
theorem dX11_leastOf_36 : decode cX11_leastOf 36 = .ok (.if_icmp .ge 93, 3) := kq.at kqdX11_leastOf_36 0 rfl
theorem dX11_leastOf_39 : decode cX11_leastOf 39 = .ok (.aload_n 0, 1) := kq.at kqdX11_leastOf_36 1 rfl
theorem dX11_leastOf_40 : decode cX11_leastOf 40 = .ok (.getfield 7, 3) := kq.at kqdX11_leastOf_36 2 rfl
theorem dX11_leastOf_43 : decode cX11_leastOf 43 = .ok (.bipush 6, 2) := kq.at kqdX11_leastOf_36 3 rfl
theorem dX11_leastOf_45 : decode cX11_leastOf 45 = .ok (.iaload, 1) := kq.at kqdX11_leastOf_36 4 rfl
theorem dX11_leastOf_46 : decode cX11_leastOf 46 = .ok (.iload 4, 2) := kq.at kqdX11_leastOf_36 5 rfl
theorem dX11_leastOf_48 : decode cX11_leastOf 48 = .ok (.invokestatic 249, 3) := kq.at kqdX11_leastOf_36 6 rfl
theorem dX11_leastOf_51 : decode cX11_leastOf 51 = .ok (.ifCond .ne 72, 3) := kq.at kqdX11_leastOf_36 7 rfl
theorem dX11_leastOf_54 : decode cX11_leastOf 54 = .ok (.aload_n 0, 1) := kq.at kqdX11_leastOf_36 8 rfl
theorem dX11_leastOf_55 : decode cX11_leastOf 55 = .ok (.iload 4, 2) := kq.at kqdX11_leastOf_36 9 rfl
theorem dX11_leastOf_57 : decode cX11_leastOf 57 = .ok (.iload_n 3, 1) := kq.at kqdX11_leastOf_36 10 rfl
theorem dX11_leastOf_58 : decode cX11_leastOf 58 = .ok (.iload_n 1, 1) := kq.at kqdX11_leastOf_36 11 rfl
theorem dX11_leastOf_59 : decode cX11_leastOf 59 = .ok (.iload_n 2, 1) := kq.at kqdX11_leastOf_36 12 rfl
theorem dX11_leastOf_60 : decode cX11_leastOf 60 = .ok (.invokevirtual 252, 3) := kq.at kqdX11_leastOf_36 13 rfl
theorem dX11_leastOf_63 : decode cX11_leastOf 63 = .ok (.ifCond .eq 60, 3) := kq.at kqdX11_leastOf_36 14 rfl
theorem dX11_leastOf_66 : decode cX11_leastOf 66 = .ok (.aload_n 0, 1) := kq.at kqdX11_leastOf_36 15 rfl
theorem dX11_leastOf_67 : decode cX11_leastOf 67 = .ok (.getfield 59, 3) := kq.at kqdX11_leastOf_36 16 rfl
theorem dX11_leastOf_70 : decode cX11_leastOf 70 = .ok (.iload_n 3, 1) := kq.at kqdX11_leastOf_36 17 rfl
theorem dX11_leastOf_71 : decode cX11_leastOf 71 = .ok (.aload_n 0, 1) := kq.at kqdX11_leastOf_36 18 rfl
theorem dX11_leastOf_72 : decode cX11_leastOf 72 = .ok (.getfield 59, 3) := kq.at kqdX11_leastOf_36 19 rfl
