theorem kqdX10_alike_22 : kq cX10_alike [(22, .ireturn, 1), (23, .aload_n 0, 1), (24, .getfield 78, 3), (27, .iload_n 1, 1), (28, .invokevirtual 265, 3), (31, .aload_n 0, 1), (32, .getfield 78, 3), (35, .iload_n 2, 1), (36, .invokevirtual 265, 3), (39, .invokestatic 319, 3), (42, .istore_n 3, 1), (43, .iconst 0, 1), (44, .istore 4, 2), (46, .iconst 0, 1), (47, .istore 5, 2), (49, .iload 5, 2), (51, .iload_n 3, 1), (52, .if_icmp .ge 29, 3), (55, .aload_n 0, 1), (56, .iload_n 1, 1), (57, .iload 5, 2), (59, .invokevirtual 268, 3), (62, .aload_n 0, 1), (63, .iload_n 2, 1)] = true := by decide +kernel
theorem dX10_alike_22 : decode cX10_alike 22 = .ok (.ireturn, 1) := kq.at kqdX10_alike_22 0 rfl
theorem dX10_alike_23 : decode cX10_alike 23 = .ok (.aload_n 0, 1) := kq.at kqdX10_alike_22 1 rfl
theorem dX10_alike_24 : decode cX10_alike 24 = .ok (.getfield 78, 3) := kq.at kqdX10_alike_22 2 rfl
theorem dX10_alike_27 : decode cX10_alike 27 = .ok (.iload_n 1, 1) := kq.at kqdX10_alike_22 3 rfl
theorem dX10_alike_28 : decode cX10_alike 28 = .ok (.invokevirtual 265, 3) := kq.at kqdX10_alike_22 4 rfl
theorem dX10_alike_31 : decode cX10_alike 31 = .ok (.aload_n 0, 1) := kq.at kqdX10_alike_22 5 rfl
theorem dX10_alike_32 : decode cX10_alike 32 = .ok (.getfield 78, 3) := kq.at kqdX10_alike_22 6 rfl
theorem dX10_alike_35 : decode cX10_alike 35 = .ok (.iload_n 2, 1) := kq.at kqdX10_alike_22 7 rfl
theorem dX10_alike_36 : decode cX10_alike 36 = .ok (.invokevirtual 265, 3) := kq.at kqdX10_alike_22 8 rfl
theorem dX10_alike_39 : decode cX10_alike 39 = .ok (.invokestatic 319, 3) := kq.at kqdX10_alike_22 9 rfl
theorem dX10_alike_42 : decode cX10_alike 42 = .ok (.istore_n 3, 1) := kq.at kqdX10_alike_22 10 rfl
theorem dX10_alike_43 : decode cX10_alike 43 = .ok (.iconst 0, 1) := kq.at kqdX10_alike_22 11 rfl
theorem dX10_alike_44 : decode cX10_alike 44 = .ok (.istore 4, 2) := kq.at kqdX10_alike_22 12 rfl
theorem dX10_alike_46 : decode cX10_alike 46 = .ok (.iconst 0, 1) := kq.at kqdX10_alike_22 13 rfl
theorem dX10_alike_47 : decode cX10_alike 47 = .ok (.istore 5, 2) := kq.at kqdX10_alike_22 14 rfl
theorem dX10_alike_49 : decode cX10_alike 49 = .ok (.iload 5, 2) := kq.at kqdX10_alike_22 15 rfl
theorem dX10_alike_51 : decode cX10_alike 51 = .ok (.iload_n 3, 1) := kq.at kqdX10_alike_22 16 rfl
theorem dX10_alike_52 : decode cX10_alike 52 = .ok (.if_icmp .ge 29, 3) := kq.at kqdX10_alike_22 17 rfl
theorem dX10_alike_55 : decode cX10_alike 55 = .ok (.aload_n 0, 1) := kq.at kqdX10_alike_22 18 rfl
theorem dX10_alike_56 : decode cX10_alike 56 = .ok (.iload_n 1, 1) := kq.at kqdX10_alike_22 19 rfl
theorem dX10_alike_57 : decode cX10_alike 57 = .ok (.iload 5, 2) := kq.at kqdX10_alike_22 20 rfl
theorem dX10_alike_59 : decode cX10_alike 59 = .ok (.invokevirtual 268, 3) := kq.at kqdX10_alike_22 21 rfl
theorem dX10_alike_62 : decode cX10_alike 62 = .ok (.aload_n 0, 1) := kq.at kqdX10_alike_22 22 rfl
theorem dX10_alike_63 : decode cX10_alike 63 = .ok (.iload_n 2, 1) := kq.at kqdX10_alike_22 23 rfl
theorem kqdX10_alike_64 : kq cX10_alike [(64, .iload 5, 2), (66, .invokevirtual 268, 3), (69, .if_icmp .ne 6, 3), (72, .iinc 4 1, 3), (75, .iinc 5 1, 3), (78, .goto (-29), 3), (81, .aload_n 0, 1), (82, .iload 4, 2), (84, .invokevirtual 113, 3), (87, .ireturn, 1)] = true := by decide +kernel
theorem dX10_alike_64 : decode cX10_alike 64 = .ok (.iload 5, 2) := kq.at kqdX10_alike_64 0 rfl
theorem dX10_alike_66 : decode cX10_alike 66 = .ok (.invokevirtual 268, 3) := kq.at kqdX10_alike_64 1 rfl
theorem dX10_alike_69 : decode cX10_alike 69 = .ok (.if_icmp .ne 6, 3) := kq.at kqdX10_alike_64 2 rfl
theorem dX10_alike_72 : decode cX10_alike 72 = .ok (.iinc 4 1, 3) := kq.at kqdX10_alike_64 3 rfl
theorem dX10_alike_75 : decode cX10_alike 75 = .ok (.iinc 5 1, 3) := kq.at kqdX10_alike_64 4 rfl
theorem dX10_alike_78 : decode cX10_alike 78 = .ok (.goto (-29), 3) := kq.at kqdX10_alike_64 5 rfl
theorem dX10_alike_81 : decode cX10_alike 81 = .ok (.aload_n 0, 1) := kq.at kqdX10_alike_64 6 rfl
theorem dX10_alike_82 : decode cX10_alike 82 = .ok (.iload 4, 2) := kq.at kqdX10_alike_64 7 rfl
theorem dX10_alike_84 : decode cX10_alike 84 = .ok (.invokevirtual 113, 3) := kq.at kqdX10_alike_64 8 rfl
theorem dX10_alike_87 : decode cX10_alike 87 = .ok (.ireturn, 1) := kq.at kqdX10_alike_64 9 rfl
theorem kqdX10_longest_0 : kq cX10_longest [(0, .aload_n 0, 1), (1, .getfield 61, 3), (4, .ifCond .eq 13, 3), (7, .aload_n 0, 1), (8, .getfield 78, 3), (11, .getfield 245, 3), (14, .ifCond .ne 10, 3), (17, .aload_n 0, 1), (18, .bipush 6, 2), (20, .invokevirtual 117, 3), (23, .ireturn, 1), (24, .aload_n 0, 1), (25, .aload_n 0, 1), (26, .getfield 78, 3), (29, .invokevirtual 322, 3), (32, .invokevirtual 113, 3), (35, .ireturn, 1)] = true := by decide +kernel
theorem dX10_longest_0 : decode cX10_longest 0 = .ok (.aload_n 0, 1) := kq.at kqdX10_longest_0 0 rfl
theorem dX10_longest_1 : decode cX10_longest 1 = .ok (.getfield 61, 3) := kq.at kqdX10_longest_0 1 rfl
theorem dX10_longest_4 : decode cX10_longest 4 = .ok (.ifCond .eq 13, 3) := kq.at kqdX10_longest_0 2 rfl
theorem dX10_longest_7 : decode cX10_longest 7 = .ok (.aload_n 0, 1) := kq.at kqdX10_longest_0 3 rfl
theorem dX10_longest_8 : decode cX10_longest 8 = .ok (.getfield 78, 3) := kq.at kqdX10_longest_0 4 rfl
theorem dX10_longest_11 : decode cX10_longest 11 = .ok (.getfield 245, 3) := kq.at kqdX10_longest_0 5 rfl
theorem dX10_longest_14 : decode cX10_longest 14 = .ok (.ifCond .ne 10, 3) := kq.at kqdX10_longest_0 6 rfl
theorem dX10_longest_17 : decode cX10_longest 17 = .ok (.aload_n 0, 1) := kq.at kqdX10_longest_0 7 rfl
theorem dX10_longest_18 : decode cX10_longest 18 = .ok (.bipush 6, 2) := kq.at kqdX10_longest_0 8 rfl
theorem dX10_longest_20 : decode cX10_longest 20 = .ok (.invokevirtual 117, 3) := kq.at kqdX10_longest_0 9 rfl
theorem dX10_longest_23 : decode cX10_longest 23 = .ok (.ireturn, 1) := kq.at kqdX10_longest_0 10 rfl
theorem dX10_longest_24 : decode cX10_longest 24 = .ok (.aload_n 0, 1) := kq.at kqdX10_longest_0 11 rfl
theorem dX10_longest_25 : decode cX10_longest 25 = .ok (.aload_n 0, 1) := kq.at kqdX10_longest_0 12 rfl
theorem dX10_longest_26 : decode cX10_longest 26 = .ok (.getfield 78, 3) := kq.at kqdX10_longest_0 13 rfl
theorem dX10_longest_29 : decode cX10_longest 29 = .ok (.invokevirtual 322, 3) := kq.at kqdX10_longest_0 14 rfl
theorem dX10_longest_32 : decode cX10_longest 32 = .ok (.invokevirtual 113, 3) := kq.at kqdX10_longest_0 15 rfl
theorem dX10_longest_35 : decode cX10_longest 35 = .ok (.ireturn, 1) := kq.at kqdX10_longest_0 16 rfl
theorem kqdX10_inLine_0 : kq cX10_inLine [(0, .aload_n 0, 1), (1, .iload_n 1, 1), (2, .invokevirtual 262, 3), (5, .ifCond .ne 10, 3), (8, .aload_n 0, 1), (9, .bipush 6, 2), (11, .invokevirtual 117, 3), (14, .ireturn, 1), (15, .iconst 1, 1), (16, .istore_n 2, 1), (17, .iconst 0, 1), (18, .istore_n 3, 1), (19, .iload_n 3, 1), (20, .aload_n 0, 1), (21, .getfield 78, 3), (24, .getfield 271, 3), (27, .iload_n 1, 1), (28, .iaload, 1), (29, .if_icmp .ge 21, 3), (32, .aload_n 0, 1), (33, .iload_n 1, 1), (34, .iload_n 3, 1), (35, .invokevirtual 268, 3), (38, .ifCond .ne 6, 3)] = true := by decide +kernel
theorem dX10_inLine_0 : decode cX10_inLine 0 = .ok (.aload_n 0, 1) := kq.at kqdX10_inLine_0 0 rfl
theorem dX10_inLine_1 : decode cX10_inLine 1 = .ok (.iload_n 1, 1) := kq.at kqdX10_inLine_0 1 rfl
theorem dX10_inLine_2 : decode cX10_inLine 2 = .ok (.invokevirtual 262, 3) := kq.at kqdX10_inLine_0 2 rfl
theorem dX10_inLine_5 : decode cX10_inLine 5 = .ok (.ifCond .ne 10, 3) := kq.at kqdX10_inLine_0 3 rfl
theorem dX10_inLine_8 : decode cX10_inLine 8 = .ok (.aload_n 0, 1) := kq.at kqdX10_inLine_0 4 rfl
theorem dX10_inLine_9 : decode cX10_inLine 9 = .ok (.bipush 6, 2) := kq.at kqdX10_inLine_0 5 rfl
theorem dX10_inLine_11 : decode cX10_inLine 11 = .ok (.invokevirtual 117, 3) := kq.at kqdX10_inLine_0 6 rfl
theorem dX10_inLine_14 : decode cX10_inLine 14 = .ok (.ireturn, 1) := kq.at kqdX10_inLine_0 7 rfl
theorem dX10_inLine_15 : decode cX10_inLine 15 = .ok (.iconst 1, 1) := kq.at kqdX10_inLine_0 8 rfl
theorem dX10_inLine_16 : decode cX10_inLine 16 = .ok (.istore_n 2, 1) := kq.at kqdX10_inLine_0 9 rfl
theorem dX10_inLine_17 : decode cX10_inLine 17 = .ok (.iconst 0, 1) := kq.at kqdX10_inLine_0 10 rfl
theorem dX10_inLine_18 : decode cX10_inLine 18 = .ok (.istore_n 3, 1) := kq.at kqdX10_inLine_0 11 rfl
theorem dX10_inLine_19 : decode cX10_inLine 19 = .ok (.iload_n 3, 1) := kq.at kqdX10_inLine_0 12 rfl
theorem dX10_inLine_20 : decode cX10_inLine 20 = .ok (.aload_n 0, 1) := kq.at kqdX10_inLine_0 13 rfl
theorem dX10_inLine_21 : decode cX10_inLine 21 = .ok (.getfield 78, 3) := kq.at kqdX10_inLine_0 14 rfl
theorem dX10_inLine_24 : decode cX10_inLine 24 = .ok (.getfield 271, 3) := kq.at kqdX10_inLine_0 15 rfl
theorem dX10_inLine_27 : decode cX10_inLine 27 = .ok (.iload_n 1, 1) := kq.at kqdX10_inLine_0 16 rfl
theorem dX10_inLine_28 : decode cX10_inLine 28 = .ok (.iaload, 1) := kq.at kqdX10_inLine_0 17 rfl
theorem dX10_inLine_29 : decode cX10_inLine 29 = .ok (.if_icmp .ge 21, 3) := kq.at kqdX10_inLine_0 18 rfl
theorem dX10_inLine_32 : decode cX10_inLine 32 = .ok (.aload_n 0, 1) := kq.at kqdX10_inLine_0 19 rfl
theorem dX10_inLine_33 : decode cX10_inLine 33 = .ok (.iload_n 1, 1) := kq.at kqdX10_inLine_0 20 rfl
theorem dX10_inLine_34 : decode cX10_inLine 34 = .ok (.iload_n 3, 1) := kq.at kqdX10_inLine_0 21 rfl
theorem dX10_inLine_35 : decode cX10_inLine 35 = .ok (.invokevirtual 268, 3) := kq.at kqdX10_inLine_0 22 rfl
theorem dX10_inLine_38 : decode cX10_inLine 38 = .ok (.ifCond .ne 6, 3) := kq.at kqdX10_inLine_0 23 rfl
theorem kqdX10_inLine_41 : kq cX10_inLine [(41, .iinc 2 1, 3), (44, .iinc 3 1, 3), (47, .goto (-28), 3), (50, .aload_n 0, 1), (51, .iload_n 2, 1), (52, .invokevirtual 113, 3), (55, .ireturn, 1)] = true := by decide +kernel
theorem dX10_inLine_41 : decode cX10_inLine 41 = .ok (.iinc 2 1, 3) := kq.at kqdX10_inLine_41 0 rfl
theorem dX10_inLine_44 : decode cX10_inLine 44 = .ok (.iinc 3 1, 3) := kq.at kqdX10_inLine_41 1 rfl
theorem dX10_inLine_47 : decode cX10_inLine 47 = .ok (.goto (-28), 3) := kq.at kqdX10_inLine_41 2 rfl
theorem dX10_inLine_50 : decode cX10_inLine 50 = .ok (.aload_n 0, 1) := kq.at kqdX10_inLine_41 3 rfl
theorem dX10_inLine_51 : decode cX10_inLine 51 = .ok (.iload_n 2, 1) := kq.at kqdX10_inLine_41 4 rfl
theorem dX10_inLine_52 : decode cX10_inLine 52 = .ok (.invokevirtual 113, 3) := kq.at kqdX10_inLine_41 5 rfl
theorem dX10_inLine_55 : decode cX10_inLine 55 = .ok (.ireturn, 1) := kq.at kqdX10_inLine_41 6 rfl
theorem kqdX10_wasted_0 : kq cX10_wasted [(0, .aload_n 0, 1), (1, .iload_n 1, 1), (2, .invokevirtual 262, 3), (5, .ifCond .ne 10, 3), (8, .aload_n 0, 1), (9, .bipush 6, 2), (11, .invokevirtual 117, 3), (14, .ireturn, 1), (15, .aload_n 0, 1), (16, .aload_n 0, 1), (17, .getfield 78, 3), (20, .iload_n 1, 1), (21, .invokevirtual 325, 3), (24, .invokevirtual 113, 3), (27, .ireturn, 1)] = true := by decide +kernel
theorem dX10_wasted_0 : decode cX10_wasted 0 = .ok (.aload_n 0, 1) := kq.at kqdX10_wasted_0 0 rfl
theorem dX10_wasted_1 : decode cX10_wasted 1 = .ok (.iload_n 1, 1) := kq.at kqdX10_wasted_0 1 rfl
theorem dX10_wasted_2 : decode cX10_wasted 2 = .ok (.invokevirtual 262, 3) := kq.at kqdX10_wasted_0 2 rfl
theorem dX10_wasted_5 : decode cX10_wasted 5 = .ok (.ifCond .ne 10, 3) := kq.at kqdX10_wasted_0 3 rfl
theorem dX10_wasted_8 : decode cX10_wasted 8 = .ok (.aload_n 0, 1) := kq.at kqdX10_wasted_0 4 rfl
theorem dX10_wasted_9 : decode cX10_wasted 9 = .ok (.bipush 6, 2) := kq.at kqdX10_wasted_0 5 rfl
theorem dX10_wasted_11 : decode cX10_wasted 11 = .ok (.invokevirtual 117, 3) := kq.at kqdX10_wasted_0 6 rfl
theorem dX10_wasted_14 : decode cX10_wasted 14 = .ok (.ireturn, 1) := kq.at kqdX10_wasted_0 7 rfl
theorem dX10_wasted_15 : decode cX10_wasted 15 = .ok (.aload_n 0, 1) := kq.at kqdX10_wasted_0 8 rfl
theorem dX10_wasted_16 : decode cX10_wasted 16 = .ok (.aload_n 0, 1) := kq.at kqdX10_wasted_0 9 rfl
theorem dX10_wasted_17 : decode cX10_wasted 17 = .ok (.getfield 78, 3) := kq.at kqdX10_wasted_0 10 rfl
theorem dX10_wasted_20 : decode cX10_wasted 20 = .ok (.iload_n 1, 1) := kq.at kqdX10_wasted_0 11 rfl
theorem dX10_wasted_21 : decode cX10_wasted 21 = .ok (.invokevirtual 325, 3) := kq.at kqdX10_wasted_0 12 rfl
theorem dX10_wasted_24 : decode cX10_wasted 24 = .ok (.invokevirtual 113, 3) := kq.at kqdX10_wasted_0 13 rfl
theorem dX10_wasted_27 : decode cX10_wasted 27 = .ok (.ireturn, 1) := kq.at kqdX10_wasted_0 14 rfl
theorem kqdX10_saved_0 : kq cX10_saved [(0, .aload_n 0, 1), (1, .getfield 61, 3), (4, .ifCond .ne 10, 3), (7, .aload_n 0, 1), (8, .bipush 6, 2), (10, .invokevirtual 117, 3), (13, .ireturn, 1), (14, .aload_n 0, 1), (15, .invokevirtual 288, 3), (18, .istore_n 1, 1), (19, .aload_n 0, 1), (20, .iload_n 1, 1), (21, .iconst (-1), 1), (22, .if_icmp .eq 7, 3), (25, .iconst 1, 1), (26, .goto 4, 3), (29, .iconst 0, 1), (30, .iload_n 1, 1), (31, .aload_n 0, 1), (32, .getfield 68, 3), (35, .getfield 200, 3), (38, .isub, 1), (39, .bipush 7, 2), (41, .invokevirtual 209, 3)] = true := by decide +kernel
theorem dX10_saved_0 : decode cX10_saved 0 = .ok (.aload_n 0, 1) := kq.at kqdX10_saved_0 0 rfl
theorem dX10_saved_1 : decode cX10_saved 1 = .ok (.getfield 61, 3) := kq.at kqdX10_saved_0 1 rfl
theorem dX10_saved_4 : decode cX10_saved 4 = .ok (.ifCond .ne 10, 3) := kq.at kqdX10_saved_0 2 rfl
theorem dX10_saved_7 : decode cX10_saved 7 = .ok (.aload_n 0, 1) := kq.at kqdX10_saved_0 3 rfl
theorem dX10_saved_8 : decode cX10_saved 8 = .ok (.bipush 6, 2) := kq.at kqdX10_saved_0 4 rfl
theorem dX10_saved_10 : decode cX10_saved 10 = .ok (.invokevirtual 117, 3) := kq.at kqdX10_saved_0 5 rfl
theorem dX10_saved_13 : decode cX10_saved 13 = .ok (.ireturn, 1) := kq.at kqdX10_saved_0 6 rfl
theorem dX10_saved_14 : decode cX10_saved 14 = .ok (.aload_n 0, 1) := kq.at kqdX10_saved_0 7 rfl
theorem dX10_saved_15 : decode cX10_saved 15 = .ok (.invokevirtual 288, 3) := kq.at kqdX10_saved_0 8 rfl
theorem dX10_saved_18 : decode cX10_saved 18 = .ok (.istore_n 1, 1) := kq.at kqdX10_saved_0 9 rfl
theorem dX10_saved_19 : decode cX10_saved 19 = .ok (.aload_n 0, 1) := kq.at kqdX10_saved_0 10 rfl
theorem dX10_saved_20 : decode cX10_saved 20 = .ok (.iload_n 1, 1) := kq.at kqdX10_saved_0 11 rfl
theorem dX10_saved_21 : decode cX10_saved 21 = .ok (.iconst (-1), 1) := kq.at kqdX10_saved_0 12 rfl
theorem dX10_saved_22 : decode cX10_saved 22 = .ok (.if_icmp .eq 7, 3) := kq.at kqdX10_saved_0 13 rfl
theorem dX10_saved_25 : decode cX10_saved 25 = .ok (.iconst 1, 1) := kq.at kqdX10_saved_0 14 rfl
theorem dX10_saved_26 : decode cX10_saved 26 = .ok (.goto 4, 3) := kq.at kqdX10_saved_0 15 rfl
theorem dX10_saved_29 : decode cX10_saved 29 = .ok (.iconst 0, 1) := kq.at kqdX10_saved_0 16 rfl
theorem dX10_saved_30 : decode cX10_saved 30 = .ok (.iload_n 1, 1) := kq.at kqdX10_saved_0 17 rfl
theorem dX10_saved_31 : decode cX10_saved 31 = .ok (.aload_n 0, 1) := kq.at kqdX10_saved_0 18 rfl
theorem dX10_saved_32 : decode cX10_saved 32 = .ok (.getfield 68, 3) := kq.at kqdX10_saved_0 19 rfl
theorem dX10_saved_35 : decode cX10_saved 35 = .ok (.getfield 200, 3) := kq.at kqdX10_saved_0 20 rfl
theorem dX10_saved_38 : decode cX10_saved 38 = .ok (.isub, 1) := kq.at kqdX10_saved_0 21 rfl
theorem dX10_saved_39 : decode cX10_saved 39 = .ok (.bipush 7, 2) := kq.at kqdX10_saved_0 22 rfl
theorem dX10_saved_41 : decode cX10_saved 41 = .ok (.invokevirtual 209, 3) := kq.at kqdX10_saved_0 23 rfl
theorem dX10_saved_44 : decode cX10_saved 44 = .ok (.ireturn, 1) := by decide +kernel
theorem kqdX10_frequent_0 : kq cX10_frequent [(0, .aload_n 0, 1), (1, .getfield 61, 3), (4, .ifCond .eq 13, 3), (7, .aload_n 0, 1), (8, .getfield 57, 3), (11, .invokevirtual 328, 3), (14, .goto 4, 3), (17, .iconst 0, 1), (18, .istore_n 1, 1), (19, .aload_n 0, 1), (20, .iload_n 1, 1), (21, .ifCond .eq 7, 3), (24, .iconst 1, 1), (25, .goto 4, 3), (28, .iconst 0, 1), (29, .iload_n 1, 1), (30, .bipush 6, 2), (32, .invokevirtual 209, 3), (35, .ireturn, 1)] = true := by decide +kernel
theorem dX10_frequent_0 : decode cX10_frequent 0 = .ok (.aload_n 0, 1) := kq.at kqdX10_frequent_0 0 rfl
theorem dX10_frequent_1 : decode cX10_frequent 1 = .ok (.getfield 61, 3) := kq.at kqdX10_frequent_0 1 rfl
theorem dX10_frequent_4 : decode cX10_frequent 4 = .ok (.ifCond .eq 13, 3) := kq.at kqdX10_frequent_0 2 rfl
theorem dX10_frequent_7 : decode cX10_frequent 7 = .ok (.aload_n 0, 1) := kq.at kqdX10_frequent_0 3 rfl
theorem dX10_frequent_8 : decode cX10_frequent 8 = .ok (.getfield 57, 3) := kq.at kqdX10_frequent_0 4 rfl
theorem dX10_frequent_11 : decode cX10_frequent 11 = .ok (.invokevirtual 328, 3) := kq.at kqdX10_frequent_0 5 rfl
theorem dX10_frequent_14 : decode cX10_frequent 14 = .ok (.goto 4, 3) := kq.at kqdX10_frequent_0 6 rfl
theorem dX10_frequent_17 : decode cX10_frequent 17 = .ok (.iconst 0, 1) := kq.at kqdX10_frequent_0 7 rfl
theorem dX10_frequent_18 : decode cX10_frequent 18 = .ok (.istore_n 1, 1) := kq.at kqdX10_frequent_0 8 rfl
theorem dX10_frequent_19 : decode cX10_frequent 19 = .ok (.aload_n 0, 1) := kq.at kqdX10_frequent_0 9 rfl
theorem dX10_frequent_20 : decode cX10_frequent 20 = .ok (.iload_n 1, 1) := kq.at kqdX10_frequent_0 10 rfl
theorem dX10_frequent_21 : decode cX10_frequent 21 = .ok (.ifCond .eq 7, 3) := kq.at kqdX10_frequent_0 11 rfl
theorem dX10_frequent_24 : decode cX10_frequent 24 = .ok (.iconst 1, 1) := kq.at kqdX10_frequent_0 12 rfl
theorem dX10_frequent_25 : decode cX10_frequent 25 = .ok (.goto 4, 3) := kq.at kqdX10_frequent_0 13 rfl
theorem dX10_frequent_28 : decode cX10_frequent 28 = .ok (.iconst 0, 1) := kq.at kqdX10_frequent_0 14 rfl
theorem dX10_frequent_29 : decode cX10_frequent 29 = .ok (.iload_n 1, 1) := kq.at kqdX10_frequent_0 15 rfl
theorem dX10_frequent_30 : decode cX10_frequent 30 = .ok (.bipush 6, 2) := kq.at kqdX10_frequent_0 16 rfl
theorem dX10_frequent_32 : decode cX10_frequent 32 = .ok (.invokevirtual 209, 3) := kq.at kqdX10_frequent_0 17 rfl
theorem dX10_frequent_35 : decode cX10_frequent 35 = .ok (.ireturn, 1) := kq.at kqdX10_frequent_0 18 rfl
theorem kqdX10_pieceOf_0 : kq cX10_pieceOf [(0, .aload_n 0, 1), (1, .iload_n 1, 1), (2, .invokevirtual 256, 3), (5, .ifCond .eq 15, 3), (8, .aload_n 0, 1), (9, .getfield 68, 3), (12, .getfield 259, 3), (15, .iload_n 1, 1), (16, .iaload, 1), (17, .ifCond .ne 10, 3), (20, .aload_n 0, 1), (21, .bipush 6, 2), (23, .invokevirtual 117, 3), (26, .ireturn, 1), (27, .iconst 0, 1), (28, .istore_n 2, 1), (29, .iconst 0, 1), (30, .istore_n 3, 1), (31, .iload_n 3, 1), (32, .iload_n 1, 1), (33, .if_icmp .ge 24, 3), (36, .aload_n 0, 1), (37, .getfield 68, 3), (40, .getfield 259, 3)] = true := by decide +kernel
theorem dX10_pieceOf_0 : decode cX10_pieceOf 0 = .ok (.aload_n 0, 1) := kq.at kqdX10_pieceOf_0 0 rfl
theorem dX10_pieceOf_1 : decode cX10_pieceOf 1 = .ok (.iload_n 1, 1) := kq.at kqdX10_pieceOf_0 1 rfl
theorem dX10_pieceOf_2 : decode cX10_pieceOf 2 = .ok (.invokevirtual 256, 3) := kq.at kqdX10_pieceOf_0 2 rfl
theorem dX10_pieceOf_5 : decode cX10_pieceOf 5 = .ok (.ifCond .eq 15, 3) := kq.at kqdX10_pieceOf_0 3 rfl
theorem dX10_pieceOf_8 : decode cX10_pieceOf 8 = .ok (.aload_n 0, 1) := kq.at kqdX10_pieceOf_0 4 rfl
theorem dX10_pieceOf_9 : decode cX10_pieceOf 9 = .ok (.getfield 68, 3) := kq.at kqdX10_pieceOf_0 5 rfl
theorem dX10_pieceOf_12 : decode cX10_pieceOf 12 = .ok (.getfield 259, 3) := kq.at kqdX10_pieceOf_0 6 rfl
theorem dX10_pieceOf_15 : decode cX10_pieceOf 15 = .ok (.iload_n 1, 1) := kq.at kqdX10_pieceOf_0 7 rfl
theorem dX10_pieceOf_16 : decode cX10_pieceOf 16 = .ok (.iaload, 1) := kq.at kqdX10_pieceOf_0 8 rfl
theorem dX10_pieceOf_17 : decode cX10_pieceOf 17 = .ok (.ifCond .ne 10, 3) := kq.at kqdX10_pieceOf_0 9 rfl
theorem dX10_pieceOf_20 : decode cX10_pieceOf 20 = .ok (.aload_n 0, 1) := kq.at kqdX10_pieceOf_0 10 rfl
theorem dX10_pieceOf_21 : decode cX10_pieceOf 21 = .ok (.bipush 6, 2) := kq.at kqdX10_pieceOf_0 11 rfl
theorem dX10_pieceOf_23 : decode cX10_pieceOf 23 = .ok (.invokevirtual 117, 3) := kq.at kqdX10_pieceOf_0 12 rfl
theorem dX10_pieceOf_26 : decode cX10_pieceOf 26 = .ok (.ireturn, 1) := kq.at kqdX10_pieceOf_0 13 rfl
theorem dX10_pieceOf_27 : decode cX10_pieceOf 27 = .ok (.iconst 0, 1) := kq.at kqdX10_pieceOf_0 14 rfl
theorem dX10_pieceOf_28 : decode cX10_pieceOf 28 = .ok (.istore_n 2, 1) := kq.at kqdX10_pieceOf_0 15 rfl
theorem dX10_pieceOf_29 : decode cX10_pieceOf 29 = .ok (.iconst 0, 1) := kq.at kqdX10_pieceOf_0 16 rfl
theorem dX10_pieceOf_30 : decode cX10_pieceOf 30 = .ok (.istore_n 3, 1) := kq.at kqdX10_pieceOf_0 17 rfl
theorem dX10_pieceOf_31 : decode cX10_pieceOf 31 = .ok (.iload_n 3, 1) := kq.at kqdX10_pieceOf_0 18 rfl
theorem dX10_pieceOf_32 : decode cX10_pieceOf 32 = .ok (.iload_n 1, 1) := kq.at kqdX10_pieceOf_0 19 rfl
theorem dX10_pieceOf_33 : decode cX10_pieceOf 33 = .ok (.if_icmp .ge 24, 3) := kq.at kqdX10_pieceOf_0 20 rfl
theorem dX10_pieceOf_36 : decode cX10_pieceOf 36 = .ok (.aload_n 0, 1) := kq.at kqdX10_pieceOf_0 21 rfl
theorem dX10_pieceOf_37 : decode cX10_pieceOf 37 = .ok (.getfield 68, 3) := kq.at kqdX10_pieceOf_0 22 rfl
theorem dX10_pieceOf_40 : decode cX10_pieceOf 40 = .ok (.getfield 259, 3) := kq.at kqdX10_pieceOf_0 23 rfl
theorem kqdX10_pieceOf_43 : kq cX10_pieceOf [(43, .iload_n 3, 1), (44, .iaload, 1), (45, .ifCond .ne 6, 3), (48, .iinc 2 1, 3), (51, .iinc 3 1, 3), (54, .goto (-23), 3), (57, .aload_n 0, 1), (58, .iload_n 2, 1), (59, .invokevirtual 113, 3), (62, .ireturn, 1)] = true := by decide +kernel
theorem dX10_pieceOf_43 : decode cX10_pieceOf 43 = .ok (.iload_n 3, 1) := kq.at kqdX10_pieceOf_43 0 rfl
theorem dX10_pieceOf_44 : decode cX10_pieceOf 44 = .ok (.iaload, 1) := kq.at kqdX10_pieceOf_43 1 rfl
theorem dX10_pieceOf_45 : decode cX10_pieceOf 45 = .ok (.ifCond .ne 6, 3) := kq.at kqdX10_pieceOf_43 2 rfl
theorem dX10_pieceOf_48 : decode cX10_pieceOf 48 = .ok (.iinc 2 1, 3) := kq.at kqdX10_pieceOf_43 3 rfl
theorem dX10_pieceOf_51 : decode cX10_pieceOf 51 = .ok (.iinc 3 1, 3) := kq.at kqdX10_pieceOf_43 4 rfl
theorem dX10_pieceOf_54 : decode cX10_pieceOf 54 = .ok (.goto (-23), 3) := kq.at kqdX10_pieceOf_43 5 rfl
theorem dX10_pieceOf_57 : decode cX10_pieceOf 57 = .ok (.aload_n 0, 1) := kq.at kqdX10_pieceOf_43 6 rfl
theorem dX10_pieceOf_58 : decode cX10_pieceOf 58 = .ok (.iload_n 2, 1) := kq.at kqdX10_pieceOf_43 7 rfl
theorem dX10_pieceOf_59 : decode cX10_pieceOf 59 = .ok (.invokevirtual 113, 3) := kq.at kqdX10_pieceOf_43 8 rfl
theorem dX10_pieceOf_62 : decode cX10_pieceOf 62 = .ok (.ireturn, 1) := kq.at kqdX10_pieceOf_43 9 rfl
theorem kqdX10_signs_0 : kq cX10_signs [(0, .iload_n 1, 1), (1, .ifCond .lt 8, 3), (4, .iload_n 1, 1), (5, .iconst 1, 1), (6, .if_icmp .le 9, 3), (9, .aload_n 0, 1), (10, .iconst 1, 1), (11, .invokevirtual 117, 3), (14, .ireturn, 1), (15, .aload_n 0, 1), (16, .getfield 61, 3), (19, .ifCond .ne 10, 3), (22, .aload_n 0, 1), (23, .bipush 6, 2), (25, .invokevirtual 117, 3), (28, .ireturn, 1), (29, .aload_n 0, 1), (30, .iload_n 1, 1), (31, .ifCond .ne 13, 3), (34, .aload_n 0, 1), (35, .getfield 57, 3), (38, .invokevirtual 331, 3), (41, .goto 10, 3), (44, .aload_n 0, 1)] = true := by decide +kernel
theorem dX10_signs_0 : decode cX10_signs 0 = .ok (.iload_n 1, 1) := kq.at kqdX10_signs_0 0 rfl
theorem dX10_signs_1 : decode cX10_signs 1 = .ok (.ifCond .lt 8, 3) := kq.at kqdX10_signs_0 1 rfl
theorem dX10_signs_4 : decode cX10_signs 4 = .ok (.iload_n 1, 1) := kq.at kqdX10_signs_0 2 rfl
theorem dX10_signs_5 : decode cX10_signs 5 = .ok (.iconst 1, 1) := kq.at kqdX10_signs_0 3 rfl
theorem dX10_signs_6 : decode cX10_signs 6 = .ok (.if_icmp .le 9, 3) := kq.at kqdX10_signs_0 4 rfl
theorem dX10_signs_9 : decode cX10_signs 9 = .ok (.aload_n 0, 1) := kq.at kqdX10_signs_0 5 rfl
theorem dX10_signs_10 : decode cX10_signs 10 = .ok (.iconst 1, 1) := kq.at kqdX10_signs_0 6 rfl
theorem dX10_signs_11 : decode cX10_signs 11 = .ok (.invokevirtual 117, 3) := kq.at kqdX10_signs_0 7 rfl
theorem dX10_signs_14 : decode cX10_signs 14 = .ok (.ireturn, 1) := kq.at kqdX10_signs_0 8 rfl
theorem dX10_signs_15 : decode cX10_signs 15 = .ok (.aload_n 0, 1) := kq.at kqdX10_signs_0 9 rfl
theorem dX10_signs_16 : decode cX10_signs 16 = .ok (.getfield 61, 3) := kq.at kqdX10_signs_0 10 rfl
theorem dX10_signs_19 : decode cX10_signs 19 = .ok (.ifCond .ne 10, 3) := kq.at kqdX10_signs_0 11 rfl
theorem dX10_signs_22 : decode cX10_signs 22 = .ok (.aload_n 0, 1) := kq.at kqdX10_signs_0 12 rfl
theorem dX10_signs_23 : decode cX10_signs 23 = .ok (.bipush 6, 2) := kq.at kqdX10_signs_0 13 rfl
theorem dX10_signs_25 : decode cX10_signs 25 = .ok (.invokevirtual 117, 3) := kq.at kqdX10_signs_0 14 rfl
theorem dX10_signs_28 : decode cX10_signs 28 = .ok (.ireturn, 1) := kq.at kqdX10_signs_0 15 rfl
theorem dX10_signs_29 : decode cX10_signs 29 = .ok (.aload_n 0, 1) := kq.at kqdX10_signs_0 16 rfl
theorem dX10_signs_30 : decode cX10_signs 30 = .ok (.iload_n 1, 1) := kq.at kqdX10_signs_0 17 rfl
theorem dX10_signs_31 : decode cX10_signs 31 = .ok (.ifCond .ne 13, 3) := kq.at kqdX10_signs_0 18 rfl
theorem dX10_signs_34 : decode cX10_signs 34 = .ok (.aload_n 0, 1) := kq.at kqdX10_signs_0 19 rfl
theorem dX10_signs_35 : decode cX10_signs 35 = .ok (.getfield 57, 3) := kq.at kqdX10_signs_0 20 rfl
theorem dX10_signs_38 : decode cX10_signs 38 = .ok (.invokevirtual 331, 3) := kq.at kqdX10_signs_0 21 rfl
theorem dX10_signs_41 : decode cX10_signs 41 = .ok (.goto 10, 3) := kq.at kqdX10_signs_0 22 rfl
theorem dX10_signs_44 : decode cX10_signs 44 = .ok (.aload_n 0, 1) := kq.at kqdX10_signs_0 23 rfl
theorem kqdX10_signs_45 : kq cX10_signs [(45, .getfield 57, 3), (48, .invokevirtual 334, 3), (51, .invokevirtual 113, 3), (54, .ireturn, 1)] = true := by decide +kernel
theorem dX10_signs_45 : decode cX10_signs 45 = .ok (.getfield 57, 3) := kq.at kqdX10_signs_45 0 rfl
theorem dX10_signs_48 : decode cX10_signs 48 = .ok (.invokevirtual 334, 3) := kq.at kqdX10_signs_45 1 rfl
theorem dX10_signs_51 : decode cX10_signs 51 = .ok (.invokevirtual 113, 3) := kq.at kqdX10_signs_45 2 rfl
theorem dX10_signs_54 : decode cX10_signs 54 = .ok (.ireturn, 1) := kq.at kqdX10_signs_45 3 rfl
theorem kqdX10_covers_0 : kq cX10_covers [(0, .aload_n 0, 1), (1, .getfield 50, 3), (4, .iload_n 1, 1), (5, .invokevirtual 213, 3), (8, .ifCond .ne 9, 3), (11, .aload_n 0, 1), (12, .iconst 1, 1), (13, .invokevirtual 117, 3), (16, .ireturn, 1), (17, .aload_n 0, 1), (18, .getfield 61, 3), (21, .ifCond .ne 10, 3), (24, .aload_n 0, 1), (25, .bipush 6, 2), (27, .invokevirtual 117, 3), (30, .ireturn, 1), (31, .aload_n 0, 1), (32, .aload_n 0, 1), (33, .getfield 50, 3), (36, .iload_n 1, 1), (37, .invokevirtual 283, 3), (40, .ifCond .eq 18, 3), (43, .aload_n 0, 1), (44, .getfield 57, 3)] = true := by decide +kernel
theorem dX10_covers_0 : decode cX10_covers 0 = .ok (.aload_n 0, 1) := kq.at kqdX10_covers_0 0 rfl
theorem dX10_covers_1 : decode cX10_covers 1 = .ok (.getfield 50, 3) := kq.at kqdX10_covers_0 1 rfl
theorem dX10_covers_4 : decode cX10_covers 4 = .ok (.iload_n 1, 1) := kq.at kqdX10_covers_0 2 rfl
theorem dX10_covers_5 : decode cX10_covers 5 = .ok (.invokevirtual 213, 3) := kq.at kqdX10_covers_0 3 rfl
theorem dX10_covers_8 : decode cX10_covers 8 = .ok (.ifCond .ne 9, 3) := kq.at kqdX10_covers_0 4 rfl
theorem dX10_covers_11 : decode cX10_covers 11 = .ok (.aload_n 0, 1) := kq.at kqdX10_covers_0 5 rfl
theorem dX10_covers_12 : decode cX10_covers 12 = .ok (.iconst 1, 1) := kq.at kqdX10_covers_0 6 rfl
theorem dX10_covers_13 : decode cX10_covers 13 = .ok (.invokevirtual 117, 3) := kq.at kqdX10_covers_0 7 rfl
theorem dX10_covers_16 : decode cX10_covers 16 = .ok (.ireturn, 1) := kq.at kqdX10_covers_0 8 rfl
theorem dX10_covers_17 : decode cX10_covers 17 = .ok (.aload_n 0, 1) := kq.at kqdX10_covers_0 9 rfl
theorem dX10_covers_18 : decode cX10_covers 18 = .ok (.getfield 61, 3) := kq.at kqdX10_covers_0 10 rfl
theorem dX10_covers_21 : decode cX10_covers 21 = .ok (.ifCond .ne 10, 3) := kq.at kqdX10_covers_0 11 rfl
theorem dX10_covers_24 : decode cX10_covers 24 = .ok (.aload_n 0, 1) := kq.at kqdX10_covers_0 12 rfl
theorem dX10_covers_25 : decode cX10_covers 25 = .ok (.bipush 6, 2) := kq.at kqdX10_covers_0 13 rfl
theorem dX10_covers_27 : decode cX10_covers 27 = .ok (.invokevirtual 117, 3) := kq.at kqdX10_covers_0 14 rfl
theorem dX10_covers_30 : decode cX10_covers 30 = .ok (.ireturn, 1) := kq.at kqdX10_covers_0 15 rfl
theorem dX10_covers_31 : decode cX10_covers 31 = .ok (.aload_n 0, 1) := kq.at kqdX10_covers_0 16 rfl
theorem dX10_covers_32 : decode cX10_covers 32 = .ok (.aload_n 0, 1) := kq.at kqdX10_covers_0 17 rfl
theorem dX10_covers_33 : decode cX10_covers 33 = .ok (.getfield 50, 3) := kq.at kqdX10_covers_0 18 rfl
theorem dX10_covers_36 : decode cX10_covers 36 = .ok (.iload_n 1, 1) := kq.at kqdX10_covers_0 19 rfl
theorem dX10_covers_37 : decode cX10_covers 37 = .ok (.invokevirtual 283, 3) := kq.at kqdX10_covers_0 20 rfl
theorem dX10_covers_40 : decode cX10_covers 40 = .ok (.ifCond .eq 18, 3) := kq.at kqdX10_covers_0 21 rfl
theorem dX10_covers_43 : decode cX10_covers 43 = .ok (.aload_n 0, 1) := kq.at kqdX10_covers_0 22 rfl
theorem dX10_covers_44 : decode cX10_covers 44 = .ok (.getfield 57, 3) := kq.at kqdX10_covers_0 23 rfl
theorem kqdX10_covers_47 : kq cX10_covers [(47, .iload_n 1, 1), (48, .aload_n 0, 1), (49, .getfield 50, 3), (52, .invokevirtual 337, 3), (55, .goto 4, 3), (58, .iconst 0, 1), (59, .invokevirtual 113, 3), (62, .ireturn, 1)] = true := by decide +kernel
theorem dX10_covers_47 : decode cX10_covers 47 = .ok (.iload_n 1, 1) := kq.at kqdX10_covers_47 0 rfl
theorem dX10_covers_48 : decode cX10_covers 48 = .ok (.aload_n 0, 1) := kq.at kqdX10_covers_47 1 rfl
theorem dX10_covers_49 : decode cX10_covers 49 = .ok (.getfield 50, 3) := kq.at kqdX10_covers_47 2 rfl
theorem dX10_covers_52 : decode cX10_covers 52 = .ok (.invokevirtual 337, 3) := kq.at kqdX10_covers_47 3 rfl
theorem dX10_covers_55 : decode cX10_covers 55 = .ok (.goto 4, 3) := kq.at kqdX10_covers_47 4 rfl
theorem dX10_covers_58 : decode cX10_covers 58 = .ok (.iconst 0, 1) := kq.at kqdX10_covers_47 5 rfl
theorem dX10_covers_59 : decode cX10_covers 59 = .ok (.invokevirtual 113, 3) := kq.at kqdX10_covers_47 6 rfl
theorem dX10_covers_62 : decode cX10_covers 62 = .ok (.ireturn, 1) := kq.at kqdX10_covers_47 7 rfl
theorem kqdX10_often_0 : kq cX10_often [(0, .iload_n 1, 1), (1, .ifCond .lt 9, 3), (4, .iload_n 1, 1), (5, .bipush 63, 2), (7, .if_icmp .le 9, 3), (10, .aload_n 0, 1), (11, .iconst 1, 1), (12, .invokevirtual 117, 3), (15, .ireturn, 1), (16, .aload_n 0, 1), (17, .getfield 61, 3), (20, .ifCond .ne 10, 3), (23, .aload_n 0, 1), (24, .bipush 6, 2), (26, .invokevirtual 117, 3), (29, .ireturn, 1), (30, .aload_n 0, 1), (31, .aload_n 0, 1), (32, .getfield 68, 3), (35, .iload_n 1, 1), (36, .invokevirtual 341, 3), (39, .invokevirtual 113, 3), (42, .ireturn, 1)] = true := by decide +kernel
theorem dX10_often_0 : decode cX10_often 0 = .ok (.iload_n 1, 1) := kq.at kqdX10_often_0 0 rfl
theorem dX10_often_1 : decode cX10_often 1 = .ok (.ifCond .lt 9, 3) := kq.at kqdX10_often_0 1 rfl
theorem dX10_often_4 : decode cX10_often 4 = .ok (.iload_n 1, 1) := kq.at kqdX10_often_0 2 rfl
theorem dX10_often_5 : decode cX10_often 5 = .ok (.bipush 63, 2) := kq.at kqdX10_often_0 3 rfl
theorem dX10_often_7 : decode cX10_often 7 = .ok (.if_icmp .le 9, 3) := kq.at kqdX10_often_0 4 rfl
theorem dX10_often_10 : decode cX10_often 10 = .ok (.aload_n 0, 1) := kq.at kqdX10_often_0 5 rfl
theorem dX10_often_11 : decode cX10_often 11 = .ok (.iconst 1, 1) := kq.at kqdX10_often_0 6 rfl
theorem dX10_often_12 : decode cX10_often 12 = .ok (.invokevirtual 117, 3) := kq.at kqdX10_often_0 7 rfl
theorem dX10_often_15 : decode cX10_often 15 = .ok (.ireturn, 1) := kq.at kqdX10_often_0 8 rfl
theorem dX10_often_16 : decode cX10_often 16 = .ok (.aload_n 0, 1) := kq.at kqdX10_often_0 9 rfl
theorem dX10_often_17 : decode cX10_often 17 = .ok (.getfield 61, 3) := kq.at kqdX10_often_0 10 rfl
theorem dX10_often_20 : decode cX10_often 20 = .ok (.ifCond .ne 10, 3) := kq.at kqdX10_often_0 11 rfl
theorem dX10_often_23 : decode cX10_often 23 = .ok (.aload_n 0, 1) := kq.at kqdX10_often_0 12 rfl
theorem dX10_often_24 : decode cX10_often 24 = .ok (.bipush 6, 2) := kq.at kqdX10_often_0 13 rfl
theorem dX10_often_26 : decode cX10_often 26 = .ok (.invokevirtual 117, 3) := kq.at kqdX10_often_0 14 rfl
theorem dX10_often_29 : decode cX10_often 29 = .ok (.ireturn, 1) := kq.at kqdX10_often_0 15 rfl
theorem dX10_often_30 : decode cX10_often 30 = .ok (.aload_n 0, 1) := kq.at kqdX10_often_0 16 rfl
theorem dX10_often_31 : decode cX10_often 31 = .ok (.aload_n 0, 1) := kq.at kqdX10_often_0 17 rfl
theorem dX10_often_32 : decode cX10_often 32 = .ok (.getfield 68, 3) := kq.at kqdX10_often_0 18 rfl
theorem dX10_often_35 : decode cX10_often 35 = .ok (.iload_n 1, 1) := kq.at kqdX10_often_0 19 rfl
theorem dX10_often_36 : decode cX10_often 36 = .ok (.invokevirtual 341, 3) := kq.at kqdX10_often_0 20 rfl
theorem dX10_often_39 : decode cX10_often 39 = .ok (.invokevirtual 113, 3) := kq.at kqdX10_often_0 21 rfl
theorem dX10_often_42 : decode cX10_often 42 = .ok (.ireturn, 1) := kq.at kqdX10_often_0 22 rfl
theorem kqdX10_commonest_0 : kq cX10_commonest [(0, .iconst 0, 1), (1, .istore_n 1, 1), (2, .iconst 0, 1), (3, .istore_n 2, 1), (4, .iconst 1, 1), (5, .istore_n 3, 1), (6, .aload_n 0, 1), (7, .getfield 61, 3), (10, .ifCond .eq 36, 3), (13, .iload_n 3, 1), (14, .bipush 63, 2), (16, .if_icmp .gt 30, 3), (19, .aload_n 0, 1), (20, .getfield 68, 3), (23, .iload_n 3, 1), (24, .invokevirtual 341, 3), (27, .istore 4, 2), (29, .iload 4, 2), (31, .iload_n 2, 1), (32, .if_icmp .le 8, 3), (35, .iload_n 3, 1), (36, .istore_n 1, 1), (37, .iload 4, 2), (39, .istore_n 2, 1)] = true := by decide +kernel
theorem dX10_commonest_0 : decode cX10_commonest 0 = .ok (.iconst 0, 1) := kq.at kqdX10_commonest_0 0 rfl
theorem dX10_commonest_1 : decode cX10_commonest 1 = .ok (.istore_n 1, 1) := kq.at kqdX10_commonest_0 1 rfl
theorem dX10_commonest_2 : decode cX10_commonest 2 = .ok (.iconst 0, 1) := kq.at kqdX10_commonest_0 2 rfl
theorem dX10_commonest_3 : decode cX10_commonest 3 = .ok (.istore_n 2, 1) := kq.at kqdX10_commonest_0 3 rfl
theorem dX10_commonest_4 : decode cX10_commonest 4 = .ok (.iconst 1, 1) := kq.at kqdX10_commonest_0 4 rfl
theorem dX10_commonest_5 : decode cX10_commonest 5 = .ok (.istore_n 3, 1) := kq.at kqdX10_commonest_0 5 rfl
theorem dX10_commonest_6 : decode cX10_commonest 6 = .ok (.aload_n 0, 1) := kq.at kqdX10_commonest_0 6 rfl
theorem dX10_commonest_7 : decode cX10_commonest 7 = .ok (.getfield 61, 3) := kq.at kqdX10_commonest_0 7 rfl
theorem dX10_commonest_10 : decode cX10_commonest 10 = .ok (.ifCond .eq 36, 3) := kq.at kqdX10_commonest_0 8 rfl
theorem dX10_commonest_13 : decode cX10_commonest 13 = .ok (.iload_n 3, 1) := kq.at kqdX10_commonest_0 9 rfl
theorem dX10_commonest_14 : decode cX10_commonest 14 = .ok (.bipush 63, 2) := kq.at kqdX10_commonest_0 10 rfl
theorem dX10_commonest_16 : decode cX10_commonest 16 = .ok (.if_icmp .gt 30, 3) := kq.at kqdX10_commonest_0 11 rfl
theorem dX10_commonest_19 : decode cX10_commonest 19 = .ok (.aload_n 0, 1) := kq.at kqdX10_commonest_0 12 rfl
theorem dX10_commonest_20 : decode cX10_commonest 20 = .ok (.getfield 68, 3) := kq.at kqdX10_commonest_0 13 rfl
theorem dX10_commonest_23 : decode cX10_commonest 23 = .ok (.iload_n 3, 1) := kq.at kqdX10_commonest_0 14 rfl
theorem dX10_commonest_24 : decode cX10_commonest 24 = .ok (.invokevirtual 341, 3) := kq.at kqdX10_commonest_0 15 rfl
theorem dX10_commonest_27 : decode cX10_commonest 27 = .ok (.istore 4, 2) := kq.at kqdX10_commonest_0 16 rfl
theorem dX10_commonest_29 : decode cX10_commonest 29 = .ok (.iload 4, 2) := kq.at kqdX10_commonest_0 17 rfl
theorem dX10_commonest_31 : decode cX10_commonest 31 = .ok (.iload_n 2, 1) := kq.at kqdX10_commonest_0 18 rfl
theorem dX10_commonest_32 : decode cX10_commonest 32 = .ok (.if_icmp .le 8, 3) := kq.at kqdX10_commonest_0 19 rfl
theorem dX10_commonest_35 : decode cX10_commonest 35 = .ok (.iload_n 3, 1) := kq.at kqdX10_commonest_0 20 rfl
theorem dX10_commonest_36 : decode cX10_commonest 36 = .ok (.istore_n 1, 1) := kq.at kqdX10_commonest_0 21 rfl
theorem dX10_commonest_37 : decode cX10_commonest 37 = .ok (.iload 4, 2) := kq.at kqdX10_commonest_0 22 rfl
theorem dX10_commonest_39 : decode cX10_commonest 39 = .ok (.istore_n 2, 1) := kq.at kqdX10_commonest_0 23 rfl
theorem kqdX10_commonest_40 : kq cX10_commonest [(40, .iinc 3 1, 3), (43, .goto (-37), 3), (46, .aload_n 0, 1), (47, .iload_n 1, 1), (48, .ifCond .eq 7, 3), (51, .iconst 1, 1), (52, .goto 4, 3), (55, .iconst 0, 1), (56, .iload_n 1, 1), (57, .bipush 6, 2), (59, .invokevirtual 209, 3), (62, .ireturn, 1)] = true := by decide +kernel
theorem dX10_commonest_40 : decode cX10_commonest 40 = .ok (.iinc 3 1, 3) := kq.at kqdX10_commonest_40 0 rfl
theorem dX10_commonest_43 : decode cX10_commonest 43 = .ok (.goto (-37), 3) := kq.at kqdX10_commonest_40 1 rfl
theorem dX10_commonest_46 : decode cX10_commonest 46 = .ok (.aload_n 0, 1) := kq.at kqdX10_commonest_40 2 rfl
theorem dX10_commonest_47 : decode cX10_commonest 47 = .ok (.iload_n 1, 1) := kq.at kqdX10_commonest_40 3 rfl
theorem dX10_commonest_48 : decode cX10_commonest 48 = .ok (.ifCond .eq 7, 3) := kq.at kqdX10_commonest_40 4 rfl
theorem dX10_commonest_51 : decode cX10_commonest 51 = .ok (.iconst 1, 1) := kq.at kqdX10_commonest_40 5 rfl
theorem dX10_commonest_52 : decode cX10_commonest 52 = .ok (.goto 4, 3) := kq.at kqdX10_commonest_40 6 rfl
theorem dX10_commonest_55 : decode cX10_commonest 55 = .ok (.iconst 0, 1) := kq.at kqdX10_commonest_40 7 rfl
theorem dX10_commonest_56 : decode cX10_commonest 56 = .ok (.iload_n 1, 1) := kq.at kqdX10_commonest_40 8 rfl
theorem dX10_commonest_57 : decode cX10_commonest 57 = .ok (.bipush 6, 2) := kq.at kqdX10_commonest_40 9 rfl
theorem dX10_commonest_59 : decode cX10_commonest 59 = .ok (.invokevirtual 209, 3) := kq.at kqdX10_commonest_40 10 rfl
theorem dX10_commonest_62 : decode cX10_commonest 62 = .ok (.ireturn, 1) := kq.at kqdX10_commonest_40 11 rfl
theorem kqdX10_ragged_0 : kq cX10_ragged [(0, .aload_n 0, 1), (1, .aload_n 0, 1), (2, .getfield 61, 3), (5, .aload_n 0, 1), (6, .getfield 78, 3), (9, .invokevirtual 344, 3), (12, .bipush 6, 2), (14, .invokevirtual 209, 3), (17, .ireturn, 1)] = true := by decide +kernel
theorem dX10_ragged_0 : decode cX10_ragged 0 = .ok (.aload_n 0, 1) := kq.at kqdX10_ragged_0 0 rfl
theorem dX10_ragged_1 : decode cX10_ragged 1 = .ok (.aload_n 0, 1) := kq.at kqdX10_ragged_0 1 rfl
theorem dX10_ragged_2 : decode cX10_ragged 2 = .ok (.getfield 61, 3) := kq.at kqdX10_ragged_0 2 rfl
theorem dX10_ragged_5 : decode cX10_ragged 5 = .ok (.aload_n 0, 1) := kq.at kqdX10_ragged_0 3 rfl
theorem dX10_ragged_6 : decode cX10_ragged 6 = .ok (.getfield 78, 3) := kq.at kqdX10_ragged_0 4 rfl
theorem dX10_ragged_9 : decode cX10_ragged 9 = .ok (.invokevirtual 344, 3) := kq.at kqdX10_ragged_0 5 rfl
theorem dX10_ragged_12 : decode cX10_ragged 12 = .ok (.bipush 6, 2) := kq.at kqdX10_ragged_0 6 rfl
theorem dX10_ragged_14 : decode cX10_ragged 14 = .ok (.invokevirtual 209, 3) := kq.at kqdX10_ragged_0 7 rfl
theorem dX10_ragged_17 : decode cX10_ragged 17 = .ok (.ireturn, 1) := kq.at kqdX10_ragged_0 8 rfl
theorem kqdX10_leastRagged_0 : kq cX10_leastRagged [(0, .aload_n 0, 1), (1, .getfield 61, 3), (4, .ifCond .ne 10, 3), (7, .aload_n 0, 1), (8, .bipush 6, 2), (10, .invokevirtual 117, 3), (13, .ireturn, 1), (14, .aload_n 0, 1), (15, .getfield 78, 3), (18, .invokevirtual 347, 3), (21, .istore_n 1, 1), (22, .aload_n 0, 1), (23, .iload_n 1, 1), (24, .iconst (-1), 1), (25, .if_icmp .eq 7, 3), (28, .iconst 1, 1), (29, .goto 4, 3), (32, .iconst 0, 1), (33, .iload_n 1, 1), (34, .bipush 7, 2), (36, .invokevirtual 209, 3), (39, .ireturn, 1)] = true := by decide +kernel
theorem dX10_leastRagged_0 : decode cX10_leastRagged 0 = .ok (.aload_n 0, 1) := kq.at kqdX10_leastRagged_0 0 rfl
theorem dX10_leastRagged_1 : decode cX10_leastRagged 1 = .ok (.getfield 61, 3) := kq.at kqdX10_leastRagged_0 1 rfl
theorem dX10_leastRagged_4 : decode cX10_leastRagged 4 = .ok (.ifCond .ne 10, 3) := kq.at kqdX10_leastRagged_0 2 rfl
theorem dX10_leastRagged_7 : decode cX10_leastRagged 7 = .ok (.aload_n 0, 1) := kq.at kqdX10_leastRagged_0 3 rfl
theorem dX10_leastRagged_8 : decode cX10_leastRagged 8 = .ok (.bipush 6, 2) := kq.at kqdX10_leastRagged_0 4 rfl
theorem dX10_leastRagged_10 : decode cX10_leastRagged 10 = .ok (.invokevirtual 117, 3) := kq.at kqdX10_leastRagged_0 5 rfl
theorem dX10_leastRagged_13 : decode cX10_leastRagged 13 = .ok (.ireturn, 1) := kq.at kqdX10_leastRagged_0 6 rfl
theorem dX10_leastRagged_14 : decode cX10_leastRagged 14 = .ok (.aload_n 0, 1) := kq.at kqdX10_leastRagged_0 7 rfl
theorem dX10_leastRagged_15 : decode cX10_leastRagged 15 = .ok (.getfield 78, 3) := kq.at kqdX10_leastRagged_0 8 rfl
theorem dX10_leastRagged_18 : decode cX10_leastRagged 18 = .ok (.invokevirtual 347, 3) := kq.at kqdX10_leastRagged_0 9 rfl
theorem dX10_leastRagged_21 : decode cX10_leastRagged 21 = .ok (.istore_n 1, 1) := kq.at kqdX10_leastRagged_0 10 rfl
theorem dX10_leastRagged_22 : decode cX10_leastRagged 22 = .ok (.aload_n 0, 1) := kq.at kqdX10_leastRagged_0 11 rfl
theorem dX10_leastRagged_23 : decode cX10_leastRagged 23 = .ok (.iload_n 1, 1) := kq.at kqdX10_leastRagged_0 12 rfl
theorem dX10_leastRagged_24 : decode cX10_leastRagged 24 = .ok (.iconst (-1), 1) := kq.at kqdX10_leastRagged_0 13 rfl
theorem dX10_leastRagged_25 : decode cX10_leastRagged 25 = .ok (.if_icmp .eq 7, 3) := kq.at kqdX10_leastRagged_0 14 rfl
theorem dX10_leastRagged_28 : decode cX10_leastRagged 28 = .ok (.iconst 1, 1) := kq.at kqdX10_leastRagged_0 15 rfl
theorem dX10_leastRagged_29 : decode cX10_leastRagged 29 = .ok (.goto 4, 3) := kq.at kqdX10_leastRagged_0 16 rfl
theorem dX10_leastRagged_32 : decode cX10_leastRagged 32 = .ok (.iconst 0, 1) := kq.at kqdX10_leastRagged_0 17 rfl
theorem dX10_leastRagged_33 : decode cX10_leastRagged 33 = .ok (.iload_n 1, 1) := kq.at kqdX10_leastRagged_0 18 rfl
theorem dX10_leastRagged_34 : decode cX10_leastRagged 34 = .ok (.bipush 7, 2) := kq.at kqdX10_leastRagged_0 19 rfl
theorem dX10_leastRagged_36 : decode cX10_leastRagged 36 = .ok (.invokevirtual 209, 3) := kq.at kqdX10_leastRagged_0 20 rfl
theorem dX10_leastRagged_39 : decode cX10_leastRagged 39 = .ok (.ireturn, 1) := kq.at kqdX10_leastRagged_0 21 rfl
theorem kqdX10_whyNoRow_0 : kq cX10_whyNoRow [(0, .aload_n 0, 1), (1, .getfield 36, 3), (4, .iload_n 1, 1), (5, .invokevirtual 120, 3), (8, .ifCond .eq 14, 3), (11, .iload_n 2, 1), (12, .iconst 1, 1), (13, .if_icmp .lt 9, 3), (16, .iload_n 2, 1), (17, .bipush 20, 2), (19, .if_icmp .le 5, 3), (22, .iconst 1, 1), (23, .ireturn, 1), (24, .aload_n 0, 1), (25, .getfield 36, 3), (28, .iload_n 1, 1), (29, .invokevirtual 150, 3), (32, .ifCond .eq 5, 3), (35, .iconst 2, 1), (36, .ireturn, 1), (37, .aload_n 0, 1), (38, .getfield 36, 3), (41, .iload_n 1, 1), (42, .iconst 0, 1)] = true := by decide +kernel
theorem dX10_whyNoRow_0 : decode cX10_whyNoRow 0 = .ok (.aload_n 0, 1) := kq.at kqdX10_whyNoRow_0 0 rfl
theorem dX10_whyNoRow_1 : decode cX10_whyNoRow 1 = .ok (.getfield 36, 3) := kq.at kqdX10_whyNoRow_0 1 rfl
theorem dX10_whyNoRow_4 : decode cX10_whyNoRow 4 = .ok (.iload_n 1, 1) := kq.at kqdX10_whyNoRow_0 2 rfl
theorem dX10_whyNoRow_5 : decode cX10_whyNoRow 5 = .ok (.invokevirtual 120, 3) := kq.at kqdX10_whyNoRow_0 3 rfl
theorem dX10_whyNoRow_8 : decode cX10_whyNoRow 8 = .ok (.ifCond .eq 14, 3) := kq.at kqdX10_whyNoRow_0 4 rfl
theorem dX10_whyNoRow_11 : decode cX10_whyNoRow 11 = .ok (.iload_n 2, 1) := kq.at kqdX10_whyNoRow_0 5 rfl
theorem dX10_whyNoRow_12 : decode cX10_whyNoRow 12 = .ok (.iconst 1, 1) := kq.at kqdX10_whyNoRow_0 6 rfl
theorem dX10_whyNoRow_13 : decode cX10_whyNoRow 13 = .ok (.if_icmp .lt 9, 3) := kq.at kqdX10_whyNoRow_0 7 rfl
theorem dX10_whyNoRow_16 : decode cX10_whyNoRow 16 = .ok (.iload_n 2, 1) := kq.at kqdX10_whyNoRow_0 8 rfl
theorem dX10_whyNoRow_17 : decode cX10_whyNoRow 17 = .ok (.bipush 20, 2) := kq.at kqdX10_whyNoRow_0 9 rfl
theorem dX10_whyNoRow_19 : decode cX10_whyNoRow 19 = .ok (.if_icmp .le 5, 3) := kq.at kqdX10_whyNoRow_0 10 rfl
theorem dX10_whyNoRow_22 : decode cX10_whyNoRow 22 = .ok (.iconst 1, 1) := kq.at kqdX10_whyNoRow_0 11 rfl
theorem dX10_whyNoRow_23 : decode cX10_whyNoRow 23 = .ok (.ireturn, 1) := kq.at kqdX10_whyNoRow_0 12 rfl
theorem dX10_whyNoRow_24 : decode cX10_whyNoRow 24 = .ok (.aload_n 0, 1) := kq.at kqdX10_whyNoRow_0 13 rfl
theorem dX10_whyNoRow_25 : decode cX10_whyNoRow 25 = .ok (.getfield 36, 3) := kq.at kqdX10_whyNoRow_0 14 rfl
theorem dX10_whyNoRow_28 : decode cX10_whyNoRow 28 = .ok (.iload_n 1, 1) := kq.at kqdX10_whyNoRow_0 15 rfl
theorem dX10_whyNoRow_29 : decode cX10_whyNoRow 29 = .ok (.invokevirtual 150, 3) := kq.at kqdX10_whyNoRow_0 16 rfl
theorem dX10_whyNoRow_32 : decode cX10_whyNoRow 32 = .ok (.ifCond .eq 5, 3) := kq.at kqdX10_whyNoRow_0 17 rfl
theorem dX10_whyNoRow_35 : decode cX10_whyNoRow 35 = .ok (.iconst 2, 1) := kq.at kqdX10_whyNoRow_0 18 rfl
theorem dX10_whyNoRow_36 : decode cX10_whyNoRow 36 = .ok (.ireturn, 1) := kq.at kqdX10_whyNoRow_0 19 rfl
theorem dX10_whyNoRow_37 : decode cX10_whyNoRow 37 = .ok (.aload_n 0, 1) := kq.at kqdX10_whyNoRow_0 20 rfl
theorem dX10_whyNoRow_38 : decode cX10_whyNoRow 38 = .ok (.getfield 36, 3) := kq.at kqdX10_whyNoRow_0 21 rfl
theorem dX10_whyNoRow_41 : decode cX10_whyNoRow 41 = .ok (.iload_n 1, 1) := kq.at kqdX10_whyNoRow_0 22 rfl
theorem dX10_whyNoRow_42 : decode cX10_whyNoRow 42 = .ok (.iconst 0, 1) := kq.at kqdX10_whyNoRow_0 23 rfl
theorem kqdX10_whyNoRow_43 : kq cX10_whyNoRow [(43, .iload_n 2, 1), (44, .invokevirtual 156, 3), (47, .ifCond .ne 5, 3), (50, .iconst 3, 1), (51, .ireturn, 1), (52, .aload_n 0, 1), (53, .getfield 36, 3), (56, .iload_n 1, 1), (57, .iload_n 2, 1), (58, .iconst 1, 1), (59, .invokevirtual 350, 3), (62, .ifCond .eq 7, 3), (65, .iconst 0, 1), (66, .goto 4, 3), (69, .iconst 5, 1), (70, .ireturn, 1)] = true := by decide +kernel
theorem dX10_whyNoRow_43 : decode cX10_whyNoRow 43 = .ok (.iload_n 2, 1) := kq.at kqdX10_whyNoRow_43 0 rfl
theorem dX10_whyNoRow_44 : decode cX10_whyNoRow 44 = .ok (.invokevirtual 156, 3) := kq.at kqdX10_whyNoRow_43 1 rfl
theorem dX10_whyNoRow_47 : decode cX10_whyNoRow 47 = .ok (.ifCond .ne 5, 3) := kq.at kqdX10_whyNoRow_43 2 rfl
theorem dX10_whyNoRow_50 : decode cX10_whyNoRow 50 = .ok (.iconst 3, 1) := kq.at kqdX10_whyNoRow_43 3 rfl
theorem dX10_whyNoRow_51 : decode cX10_whyNoRow 51 = .ok (.ireturn, 1) := kq.at kqdX10_whyNoRow_43 4 rfl
theorem dX10_whyNoRow_52 : decode cX10_whyNoRow 52 = .ok (.aload_n 0, 1) := kq.at kqdX10_whyNoRow_43 5 rfl
theorem dX10_whyNoRow_53 : decode cX10_whyNoRow 53 = .ok (.getfield 36, 3) := kq.at kqdX10_whyNoRow_43 6 rfl
theorem dX10_whyNoRow_56 : decode cX10_whyNoRow 56 = .ok (.iload_n 1, 1) := kq.at kqdX10_whyNoRow_43 7 rfl
theorem dX10_whyNoRow_57 : decode cX10_whyNoRow 57 = .ok (.iload_n 2, 1) := kq.at kqdX10_whyNoRow_43 8 rfl
theorem dX10_whyNoRow_58 : decode cX10_whyNoRow 58 = .ok (.iconst 1, 1) := kq.at kqdX10_whyNoRow_43 9 rfl
theorem dX10_whyNoRow_59 : decode cX10_whyNoRow 59 = .ok (.invokevirtual 350, 3) := kq.at kqdX10_whyNoRow_43 10 rfl
theorem dX10_whyNoRow_62 : decode cX10_whyNoRow 62 = .ok (.ifCond .eq 7, 3) := kq.at kqdX10_whyNoRow_43 11 rfl
theorem dX10_whyNoRow_65 : decode cX10_whyNoRow 65 = .ok (.iconst 0, 1) := kq.at kqdX10_whyNoRow_43 12 rfl
theorem dX10_whyNoRow_66 : decode cX10_whyNoRow 66 = .ok (.goto 4, 3) := kq.at kqdX10_whyNoRow_43 13 rfl
theorem dX10_whyNoRow_69 : decode cX10_whyNoRow 69 = .ok (.iconst 5, 1) := kq.at kqdX10_whyNoRow_43 14 rfl
theorem dX10_whyNoRow_70 : decode cX10_whyNoRow 70 = .ok (.ireturn, 1) := kq.at kqdX10_whyNoRow_43 15 rfl
theorem kqdX10_whyNoFailed_0 : kq cX10_whyNoFailed [(0, .aload_n 0, 1), (1, .getfield 36, 3), (4, .iload_n 1, 1), (5, .invokevirtual 120, 3), (8, .ifCond .eq 25, 3), (11, .aload_n 0, 1), (12, .getfield 36, 3), (15, .iload_n 2, 1), (16, .invokevirtual 120, 3), (19, .ifCond .eq 14, 3), (22, .iload_n 3, 1), (23, .iconst 1, 1), (24, .if_icmp .lt 9, 3), (27, .iload_n 3, 1), (28, .bipush 20, 2), (30, .if_icmp .le 5, 3), (33, .iconst 1, 1), (34, .ireturn, 1), (35, .aload_n 0, 1), (36, .getfield 36, 3), (39, .iload_n 1, 1), (40, .invokevirtual 150, 3), (43, .ifCond .ne 14, 3), (46, .aload_n 0, 1)] = true := by decide +kernel
theorem dX10_whyNoFailed_0 : decode cX10_whyNoFailed 0 = .ok (.aload_n 0, 1) := kq.at kqdX10_whyNoFailed_0 0 rfl
theorem dX10_whyNoFailed_1 : decode cX10_whyNoFailed 1 = .ok (.getfield 36, 3) := kq.at kqdX10_whyNoFailed_0 1 rfl
theorem dX10_whyNoFailed_4 : decode cX10_whyNoFailed 4 = .ok (.iload_n 1, 1) := kq.at kqdX10_whyNoFailed_0 2 rfl
theorem dX10_whyNoFailed_5 : decode cX10_whyNoFailed 5 = .ok (.invokevirtual 120, 3) := kq.at kqdX10_whyNoFailed_0 3 rfl
theorem dX10_whyNoFailed_8 : decode cX10_whyNoFailed 8 = .ok (.ifCond .eq 25, 3) := kq.at kqdX10_whyNoFailed_0 4 rfl
theorem dX10_whyNoFailed_11 : decode cX10_whyNoFailed 11 = .ok (.aload_n 0, 1) := kq.at kqdX10_whyNoFailed_0 5 rfl
theorem dX10_whyNoFailed_12 : decode cX10_whyNoFailed 12 = .ok (.getfield 36, 3) := kq.at kqdX10_whyNoFailed_0 6 rfl
theorem dX10_whyNoFailed_15 : decode cX10_whyNoFailed 15 = .ok (.iload_n 2, 1) := kq.at kqdX10_whyNoFailed_0 7 rfl
theorem dX10_whyNoFailed_16 : decode cX10_whyNoFailed 16 = .ok (.invokevirtual 120, 3) := kq.at kqdX10_whyNoFailed_0 8 rfl
theorem dX10_whyNoFailed_19 : decode cX10_whyNoFailed 19 = .ok (.ifCond .eq 14, 3) := kq.at kqdX10_whyNoFailed_0 9 rfl
theorem dX10_whyNoFailed_22 : decode cX10_whyNoFailed 22 = .ok (.iload_n 3, 1) := kq.at kqdX10_whyNoFailed_0 10 rfl
theorem dX10_whyNoFailed_23 : decode cX10_whyNoFailed 23 = .ok (.iconst 1, 1) := kq.at kqdX10_whyNoFailed_0 11 rfl
theorem dX10_whyNoFailed_24 : decode cX10_whyNoFailed 24 = .ok (.if_icmp .lt 9, 3) := kq.at kqdX10_whyNoFailed_0 12 rfl
theorem dX10_whyNoFailed_27 : decode cX10_whyNoFailed 27 = .ok (.iload_n 3, 1) := kq.at kqdX10_whyNoFailed_0 13 rfl
theorem dX10_whyNoFailed_28 : decode cX10_whyNoFailed 28 = .ok (.bipush 20, 2) := kq.at kqdX10_whyNoFailed_0 14 rfl
theorem dX10_whyNoFailed_30 : decode cX10_whyNoFailed 30 = .ok (.if_icmp .le 5, 3) := kq.at kqdX10_whyNoFailed_0 15 rfl
theorem dX10_whyNoFailed_33 : decode cX10_whyNoFailed 33 = .ok (.iconst 1, 1) := kq.at kqdX10_whyNoFailed_0 16 rfl
theorem dX10_whyNoFailed_34 : decode cX10_whyNoFailed 34 = .ok (.ireturn, 1) := kq.at kqdX10_whyNoFailed_0 17 rfl
theorem dX10_whyNoFailed_35 : decode cX10_whyNoFailed 35 = .ok (.aload_n 0, 1) := kq.at kqdX10_whyNoFailed_0 18 rfl
theorem dX10_whyNoFailed_36 : decode cX10_whyNoFailed 36 = .ok (.getfield 36, 3) := kq.at kqdX10_whyNoFailed_0 19 rfl
theorem dX10_whyNoFailed_39 : decode cX10_whyNoFailed 39 = .ok (.iload_n 1, 1) := kq.at kqdX10_whyNoFailed_0 20 rfl
theorem dX10_whyNoFailed_40 : decode cX10_whyNoFailed 40 = .ok (.invokevirtual 150, 3) := kq.at kqdX10_whyNoFailed_0 21 rfl
theorem dX10_whyNoFailed_43 : decode cX10_whyNoFailed 43 = .ok (.ifCond .ne 14, 3) := kq.at kqdX10_whyNoFailed_0 22 rfl
theorem dX10_whyNoFailed_46 : decode cX10_whyNoFailed 46 = .ok (.aload_n 0, 1) := kq.at kqdX10_whyNoFailed_0 23 rfl
theorem kqdX10_whyNoFailed_47 : kq cX10_whyNoFailed [(47, .getfield 36, 3), (50, .iload_n 2, 1), (51, .invokevirtual 150, 3), (54, .ifCond .eq 5, 3), (57, .iconst 2, 1), (58, .ireturn, 1), (59, .aload_n 0, 1), (60, .getfield 36, 3), (63, .iload_n 1, 1), (64, .iconst 0, 1), (65, .iload_n 3, 1), (66, .invokevirtual 156, 3), (69, .ifCond .eq 16, 3), (72, .aload_n 0, 1), (73, .getfield 36, 3), (76, .iload_n 2, 1), (77, .iconst 0, 1), (78, .iload_n 3, 1), (79, .invokevirtual 156, 3), (82, .ifCond .ne 5, 3), (85, .iconst 3, 1), (86, .ireturn, 1), (87, .aload_n 0, 1), (88, .getfield 36, 3)] = true := by decide +kernel
theorem dX10_whyNoFailed_47 : decode cX10_whyNoFailed 47 = .ok (.getfield 36, 3) := kq.at kqdX10_whyNoFailed_47 0 rfl
theorem dX10_whyNoFailed_50 : decode cX10_whyNoFailed 50 = .ok (.iload_n 2, 1) := kq.at kqdX10_whyNoFailed_47 1 rfl
theorem dX10_whyNoFailed_51 : decode cX10_whyNoFailed 51 = .ok (.invokevirtual 150, 3) := kq.at kqdX10_whyNoFailed_47 2 rfl
theorem dX10_whyNoFailed_54 : decode cX10_whyNoFailed 54 = .ok (.ifCond .eq 5, 3) := kq.at kqdX10_whyNoFailed_47 3 rfl
theorem dX10_whyNoFailed_57 : decode cX10_whyNoFailed 57 = .ok (.iconst 2, 1) := kq.at kqdX10_whyNoFailed_47 4 rfl
theorem dX10_whyNoFailed_58 : decode cX10_whyNoFailed 58 = .ok (.ireturn, 1) := kq.at kqdX10_whyNoFailed_47 5 rfl
theorem dX10_whyNoFailed_59 : decode cX10_whyNoFailed 59 = .ok (.aload_n 0, 1) := kq.at kqdX10_whyNoFailed_47 6 rfl
theorem dX10_whyNoFailed_60 : decode cX10_whyNoFailed 60 = .ok (.getfield 36, 3) := kq.at kqdX10_whyNoFailed_47 7 rfl
theorem dX10_whyNoFailed_63 : decode cX10_whyNoFailed 63 = .ok (.iload_n 1, 1) := kq.at kqdX10_whyNoFailed_47 8 rfl
theorem dX10_whyNoFailed_64 : decode cX10_whyNoFailed 64 = .ok (.iconst 0, 1) := kq.at kqdX10_whyNoFailed_47 9 rfl
theorem dX10_whyNoFailed_65 : decode cX10_whyNoFailed 65 = .ok (.iload_n 3, 1) := kq.at kqdX10_whyNoFailed_47 10 rfl
theorem dX10_whyNoFailed_66 : decode cX10_whyNoFailed 66 = .ok (.invokevirtual 156, 3) := kq.at kqdX10_whyNoFailed_47 11 rfl
theorem dX10_whyNoFailed_69 : decode cX10_whyNoFailed 69 = .ok (.ifCond .eq 16, 3) := kq.at kqdX10_whyNoFailed_47 12 rfl
theorem dX10_whyNoFailed_72 : decode cX10_whyNoFailed 72 = .ok (.aload_n 0, 1) := kq.at kqdX10_whyNoFailed_47 13 rfl
theorem dX10_whyNoFailed_73 : decode cX10_whyNoFailed 73 = .ok (.getfield 36, 3) := kq.at kqdX10_whyNoFailed_47 14 rfl
theorem dX10_whyNoFailed_76 : decode cX10_whyNoFailed 76 = .ok (.iload_n 2, 1) := kq.at kqdX10_whyNoFailed_47 15 rfl
theorem dX10_whyNoFailed_77 : decode cX10_whyNoFailed 77 = .ok (.iconst 0, 1) := kq.at kqdX10_whyNoFailed_47 16 rfl
theorem dX10_whyNoFailed_78 : decode cX10_whyNoFailed 78 = .ok (.iload_n 3, 1) := kq.at kqdX10_whyNoFailed_47 17 rfl
theorem dX10_whyNoFailed_79 : decode cX10_whyNoFailed 79 = .ok (.invokevirtual 156, 3) := kq.at kqdX10_whyNoFailed_47 18 rfl
theorem dX10_whyNoFailed_82 : decode cX10_whyNoFailed 82 = .ok (.ifCond .ne 5, 3) := kq.at kqdX10_whyNoFailed_47 19 rfl
theorem dX10_whyNoFailed_85 : decode cX10_whyNoFailed 85 = .ok (.iconst 3, 1) := kq.at kqdX10_whyNoFailed_47 20 rfl
theorem dX10_whyNoFailed_86 : decode cX10_whyNoFailed 86 = .ok (.ireturn, 1) := kq.at kqdX10_whyNoFailed_47 21 rfl
theorem dX10_whyNoFailed_87 : decode cX10_whyNoFailed 87 = .ok (.aload_n 0, 1) := kq.at kqdX10_whyNoFailed_47 22 rfl
theorem dX10_whyNoFailed_88 : decode cX10_whyNoFailed 88 = .ok (.getfield 36, 3) := kq.at kqdX10_whyNoFailed_47 23 rfl
theorem kqdX10_whyNoFailed_91 : kq cX10_whyNoFailed [(91, .iload_n 1, 1), (92, .iload_n 3, 1), (93, .iconst 1, 1), (94, .invokevirtual 350, 3), (97, .ifCond .eq 20, 3), (100, .aload_n 0, 1), (101, .getfield 36, 3), (104, .iload_n 2, 1), (105, .iload_n 3, 1), (106, .iconst 0, 1), (107, .invokevirtual 350, 3), (110, .ifCond .eq 7, 3), (113, .iconst 1, 1), (114, .goto 4, 3), (117, .iconst 0, 1), (118, .istore 4, 2), (120, .iload 4, 2), (122, .ifCond .eq 7, 3), (125, .iconst 0, 1), (126, .goto 4, 3), (129, .iconst 5, 1), (130, .ireturn, 1)] = true := by decide +kernel
theorem dX10_whyNoFailed_91 : decode cX10_whyNoFailed 91 = .ok (.iload_n 1, 1) := kq.at kqdX10_whyNoFailed_91 0 rfl
theorem dX10_whyNoFailed_92 : decode cX10_whyNoFailed 92 = .ok (.iload_n 3, 1) := kq.at kqdX10_whyNoFailed_91 1 rfl
theorem dX10_whyNoFailed_93 : decode cX10_whyNoFailed 93 = .ok (.iconst 1, 1) := kq.at kqdX10_whyNoFailed_91 2 rfl
theorem dX10_whyNoFailed_94 : decode cX10_whyNoFailed 94 = .ok (.invokevirtual 350, 3) := kq.at kqdX10_whyNoFailed_91 3 rfl
theorem dX10_whyNoFailed_97 : decode cX10_whyNoFailed 97 = .ok (.ifCond .eq 20, 3) := kq.at kqdX10_whyNoFailed_91 4 rfl
theorem dX10_whyNoFailed_100 : decode cX10_whyNoFailed 100 = .ok (.aload_n 0, 1) := kq.at kqdX10_whyNoFailed_91 5 rfl
theorem dX10_whyNoFailed_101 : decode cX10_whyNoFailed 101 = .ok (.getfield 36, 3) := kq.at kqdX10_whyNoFailed_91 6 rfl
theorem dX10_whyNoFailed_104 : decode cX10_whyNoFailed 104 = .ok (.iload_n 2, 1) := kq.at kqdX10_whyNoFailed_91 7 rfl
theorem dX10_whyNoFailed_105 : decode cX10_whyNoFailed 105 = .ok (.iload_n 3, 1) := kq.at kqdX10_whyNoFailed_91 8 rfl
theorem dX10_whyNoFailed_106 : decode cX10_whyNoFailed 106 = .ok (.iconst 0, 1) := kq.at kqdX10_whyNoFailed_91 9 rfl
theorem dX10_whyNoFailed_107 : decode cX10_whyNoFailed 107 = .ok (.invokevirtual 350, 3) := kq.at kqdX10_whyNoFailed_91 10 rfl
theorem dX10_whyNoFailed_110 : decode cX10_whyNoFailed 110 = .ok (.ifCond .eq 7, 3) := kq.at kqdX10_whyNoFailed_91 11 rfl
theorem dX10_whyNoFailed_113 : decode cX10_whyNoFailed 113 = .ok (.iconst 1, 1) := kq.at kqdX10_whyNoFailed_91 12 rfl
theorem dX10_whyNoFailed_114 : decode cX10_whyNoFailed 114 = .ok (.goto 4, 3) := kq.at kqdX10_whyNoFailed_91 13 rfl
theorem dX10_whyNoFailed_117 : decode cX10_whyNoFailed 117 = .ok (.iconst 0, 1) := kq.at kqdX10_whyNoFailed_91 14 rfl
theorem dX10_whyNoFailed_118 : decode cX10_whyNoFailed 118 = .ok (.istore 4, 2) := kq.at kqdX10_whyNoFailed_91 15 rfl
theorem dX10_whyNoFailed_120 : decode cX10_whyNoFailed 120 = .ok (.iload 4, 2) := kq.at kqdX10_whyNoFailed_91 16 rfl
theorem dX10_whyNoFailed_122 : decode cX10_whyNoFailed 122 = .ok (.ifCond .eq 7, 3) := kq.at kqdX10_whyNoFailed_91 17 rfl
theorem dX10_whyNoFailed_125 : decode cX10_whyNoFailed 125 = .ok (.iconst 0, 1) := kq.at kqdX10_whyNoFailed_91 18 rfl
theorem dX10_whyNoFailed_126 : decode cX10_whyNoFailed 126 = .ok (.goto 4, 3) := kq.at kqdX10_whyNoFailed_91 19 rfl
theorem dX10_whyNoFailed_129 : decode cX10_whyNoFailed 129 = .ok (.iconst 5, 1) := kq.at kqdX10_whyNoFailed_91 20 rfl
theorem dX10_whyNoFailed_130 : decode cX10_whyNoFailed 130 = .ok (.ireturn, 1) := kq.at kqdX10_whyNoFailed_91 21 rfl
theorem kqdX10_takeRow_0 : kq cX10_takeRow [(0, .iconst 0, 1), (1, .istore 4, 2), (3, .iload 4, 2), (5, .iload_n 3, 1), (6, .if_icmp .ge 53, 3), (9, .iload_n 2, 1), (10, .iconst (-1), 1), (11, .if_icmp .ne 7, 3), (14, .iconst 0, 1), (15, .goto 14, 3), (18, .aload_n 0, 1), (19, .getfield 36, 3), (22, .iload_n 2, 1), (23, .iload 4, 2), (25, .invokevirtual 146, 3), (28, .l2i, 1), (29, .istore 5, 2), (31, .aload_n 0, 1), (32, .getfield 85, 3), (35, .iload 4, 2), (37, .aload_n 0, 1), (38, .getfield 36, 3), (41, .iload_n 1, 1), (42, .iload 4, 2)] = true := by decide +kernel
theorem dX10_takeRow_0 : decode cX10_takeRow 0 = .ok (.iconst 0, 1) := kq.at kqdX10_takeRow_0 0 rfl
theorem dX10_takeRow_1 : decode cX10_takeRow 1 = .ok (.istore 4, 2) := kq.at kqdX10_takeRow_0 1 rfl
theorem dX10_takeRow_3 : decode cX10_takeRow 3 = .ok (.iload 4, 2) := kq.at kqdX10_takeRow_0 2 rfl
theorem dX10_takeRow_5 : decode cX10_takeRow 5 = .ok (.iload_n 3, 1) := kq.at kqdX10_takeRow_0 3 rfl
theorem dX10_takeRow_6 : decode cX10_takeRow 6 = .ok (.if_icmp .ge 53, 3) := kq.at kqdX10_takeRow_0 4 rfl
theorem dX10_takeRow_9 : decode cX10_takeRow 9 = .ok (.iload_n 2, 1) := kq.at kqdX10_takeRow_0 5 rfl
theorem dX10_takeRow_10 : decode cX10_takeRow 10 = .ok (.iconst (-1), 1) := kq.at kqdX10_takeRow_0 6 rfl
theorem dX10_takeRow_11 : decode cX10_takeRow 11 = .ok (.if_icmp .ne 7, 3) := kq.at kqdX10_takeRow_0 7 rfl
theorem dX10_takeRow_14 : decode cX10_takeRow 14 = .ok (.iconst 0, 1) := kq.at kqdX10_takeRow_0 8 rfl
theorem dX10_takeRow_15 : decode cX10_takeRow 15 = .ok (.goto 14, 3) := kq.at kqdX10_takeRow_0 9 rfl
theorem dX10_takeRow_18 : decode cX10_takeRow 18 = .ok (.aload_n 0, 1) := kq.at kqdX10_takeRow_0 10 rfl
theorem dX10_takeRow_19 : decode cX10_takeRow 19 = .ok (.getfield 36, 3) := kq.at kqdX10_takeRow_0 11 rfl
theorem dX10_takeRow_22 : decode cX10_takeRow 22 = .ok (.iload_n 2, 1) := kq.at kqdX10_takeRow_0 12 rfl
theorem dX10_takeRow_23 : decode cX10_takeRow 23 = .ok (.iload 4, 2) := kq.at kqdX10_takeRow_0 13 rfl
theorem dX10_takeRow_25 : decode cX10_takeRow 25 = .ok (.invokevirtual 146, 3) := kq.at kqdX10_takeRow_0 14 rfl
theorem dX10_takeRow_28 : decode cX10_takeRow 28 = .ok (.l2i, 1) := kq.at kqdX10_takeRow_0 15 rfl
theorem dX10_takeRow_29 : decode cX10_takeRow 29 = .ok (.istore 5, 2) := kq.at kqdX10_takeRow_0 16 rfl
theorem dX10_takeRow_31 : decode cX10_takeRow 31 = .ok (.aload_n 0, 1) := kq.at kqdX10_takeRow_0 17 rfl
theorem dX10_takeRow_32 : decode cX10_takeRow 32 = .ok (.getfield 85, 3) := kq.at kqdX10_takeRow_0 18 rfl
theorem dX10_takeRow_35 : decode cX10_takeRow 35 = .ok (.iload 4, 2) := kq.at kqdX10_takeRow_0 19 rfl
theorem dX10_takeRow_37 : decode cX10_takeRow 37 = .ok (.aload_n 0, 1) := kq.at kqdX10_takeRow_0 20 rfl
theorem dX10_takeRow_38 : decode cX10_takeRow 38 = .ok (.getfield 36, 3) := kq.at kqdX10_takeRow_0 21 rfl
theorem dX10_takeRow_41 : decode cX10_takeRow 41 = .ok (.iload_n 1, 1) := kq.at kqdX10_takeRow_0 22 rfl
theorem dX10_takeRow_42 : decode cX10_takeRow 42 = .ok (.iload 4, 2) := kq.at kqdX10_takeRow_0 23 rfl
theorem kqdX10_takeRow_44 : kq cX10_takeRow [(44, .invokevirtual 146, 3), (47, .l2i, 1), (48, .iload 5, 2), (50, .invokevirtual 353, 3), (53, .iinc 4 1, 3), (56, .goto (-53), 3), (59, .aload_n 0, 1), (60, .getfield 85, 3), (63, .iload_n 3, 1), (64, .aload_n 0, 1), (65, .getfield 50, 3), (68, .invokevirtual 355, 3), (71, .return_, 1)] = true := by decide +kernel
theorem dX10_takeRow_44 : decode cX10_takeRow 44 = .ok (.invokevirtual 146, 3) := kq.at kqdX10_takeRow_44 0 rfl
theorem dX10_takeRow_47 : decode cX10_takeRow 47 = .ok (.l2i, 1) := kq.at kqdX10_takeRow_44 1 rfl
theorem dX10_takeRow_48 : decode cX10_takeRow 48 = .ok (.iload 5, 2) := kq.at kqdX10_takeRow_44 2 rfl
theorem dX10_takeRow_50 : decode cX10_takeRow 50 = .ok (.invokevirtual 353, 3) := kq.at kqdX10_takeRow_44 3 rfl
theorem dX10_takeRow_53 : decode cX10_takeRow 53 = .ok (.iinc 4 1, 3) := kq.at kqdX10_takeRow_44 4 rfl
theorem dX10_takeRow_56 : decode cX10_takeRow 56 = .ok (.goto (-53), 3) := kq.at kqdX10_takeRow_44 5 rfl
theorem dX10_takeRow_59 : decode cX10_takeRow 59 = .ok (.aload_n 0, 1) := kq.at kqdX10_takeRow_44 6 rfl
theorem dX10_takeRow_60 : decode cX10_takeRow 60 = .ok (.getfield 85, 3) := kq.at kqdX10_takeRow_44 7 rfl
theorem dX10_takeRow_63 : decode cX10_takeRow 63 = .ok (.iload_n 3, 1) := kq.at kqdX10_takeRow_44 8 rfl
theorem dX10_takeRow_64 : decode cX10_takeRow 64 = .ok (.aload_n 0, 1) := kq.at kqdX10_takeRow_44 9 rfl
theorem dX10_takeRow_65 : decode cX10_takeRow 65 = .ok (.getfield 50, 3) := kq.at kqdX10_takeRow_44 10 rfl
theorem dX10_takeRow_68 : decode cX10_takeRow 68 = .ok (.invokevirtual 355, 3) := kq.at kqdX10_takeRow_44 11 rfl
theorem dX10_takeRow_71 : decode cX10_takeRow 71 = .ok (.return_, 1) := kq.at kqdX10_takeRow_44 12 rfl
theorem kqdX10_ways_0 : kq cX10_ways [(0, .aload_n 0, 1), (1, .iload_n 1, 1), (2, .iload_n 2, 1), (3, .invokevirtual 359, 3), (6, .istore_n 3, 1), (7, .iload_n 3, 1), (8, .ifCond .eq 9, 3), (11, .aload_n 0, 1), (12, .iload_n 3, 1), (13, .invokevirtual 117, 3), (16, .ireturn, 1), (17, .aload_n 0, 1), (18, .iload_n 1, 1), (19, .iconst (-1), 1), (20, .iload_n 2, 1), (21, .invokevirtual 362, 3), (24, .aload_n 0, 1), (25, .aload_n 0, 1), (26, .getfield 85, 3), (29, .invokevirtual 365, 3), (32, .invokevirtual 113, 3), (35, .ireturn, 1)] = true := by decide +kernel
theorem dX10_ways_0 : decode cX10_ways 0 = .ok (.aload_n 0, 1) := kq.at kqdX10_ways_0 0 rfl
theorem dX10_ways_1 : decode cX10_ways 1 = .ok (.iload_n 1, 1) := kq.at kqdX10_ways_0 1 rfl
theorem dX10_ways_2 : decode cX10_ways 2 = .ok (.iload_n 2, 1) := kq.at kqdX10_ways_0 2 rfl
theorem dX10_ways_3 : decode cX10_ways 3 = .ok (.invokevirtual 359, 3) := kq.at kqdX10_ways_0 3 rfl
theorem dX10_ways_6 : decode cX10_ways 6 = .ok (.istore_n 3, 1) := kq.at kqdX10_ways_0 4 rfl
theorem dX10_ways_7 : decode cX10_ways 7 = .ok (.iload_n 3, 1) := kq.at kqdX10_ways_0 5 rfl
theorem dX10_ways_8 : decode cX10_ways 8 = .ok (.ifCond .eq 9, 3) := kq.at kqdX10_ways_0 6 rfl
theorem dX10_ways_11 : decode cX10_ways 11 = .ok (.aload_n 0, 1) := kq.at kqdX10_ways_0 7 rfl
theorem dX10_ways_12 : decode cX10_ways 12 = .ok (.iload_n 3, 1) := kq.at kqdX10_ways_0 8 rfl
theorem dX10_ways_13 : decode cX10_ways 13 = .ok (.invokevirtual 117, 3) := kq.at kqdX10_ways_0 9 rfl
theorem dX10_ways_16 : decode cX10_ways 16 = .ok (.ireturn, 1) := kq.at kqdX10_ways_0 10 rfl
theorem dX10_ways_17 : decode cX10_ways 17 = .ok (.aload_n 0, 1) := kq.at kqdX10_ways_0 11 rfl
theorem dX10_ways_18 : decode cX10_ways 18 = .ok (.iload_n 1, 1) := kq.at kqdX10_ways_0 12 rfl
theorem dX10_ways_19 : decode cX10_ways 19 = .ok (.iconst (-1), 1) := kq.at kqdX10_ways_0 13 rfl
theorem dX10_ways_20 : decode cX10_ways 20 = .ok (.iload_n 2, 1) := kq.at kqdX10_ways_0 14 rfl
theorem dX10_ways_21 : decode cX10_ways 21 = .ok (.invokevirtual 362, 3) := kq.at kqdX10_ways_0 15 rfl
theorem dX10_ways_24 : decode cX10_ways 24 = .ok (.aload_n 0, 1) := kq.at kqdX10_ways_0 16 rfl
theorem dX10_ways_25 : decode cX10_ways 25 = .ok (.aload_n 0, 1) := kq.at kqdX10_ways_0 17 rfl
theorem dX10_ways_26 : decode cX10_ways 26 = .ok (.getfield 85, 3) := kq.at kqdX10_ways_0 18 rfl
theorem dX10_ways_29 : decode cX10_ways 29 = .ok (.invokevirtual 365, 3) := kq.at kqdX10_ways_0 19 rfl
theorem dX10_ways_32 : decode cX10_ways 32 = .ok (.invokevirtual 113, 3) := kq.at kqdX10_ways_0 20 rfl
theorem dX10_ways_35 : decode cX10_ways 35 = .ok (.ireturn, 1) := kq.at kqdX10_ways_0 21 rfl
theorem kqdX10_first_0 : kq cX10_first [(0, .aload_n 0, 1), (1, .iload_n 1, 1), (2, .iload_n 2, 1), (3, .invokevirtual 359, 3), (6, .istore_n 3, 1), (7, .iload_n 3, 1), (8, .ifCond .eq 9, 3), (11, .aload_n 0, 1), (12, .iload_n 3, 1), (13, .invokevirtual 117, 3), (16, .ireturn, 1), (17, .aload_n 0, 1), (18, .iload_n 1, 1), (19, .iconst (-1), 1), (20, .iload_n 2, 1), (21, .invokevirtual 362, 3), (24, .aload_n 0, 1), (25, .getfield 85, 3), (28, .invokevirtual 365, 3), (31, .ifCond .ne 10, 3), (34, .aload_n 0, 1), (35, .bipush 6, 2), (37, .invokevirtual 117, 3), (40, .ireturn, 1)] = true := by decide +kernel
theorem dX10_first_0 : decode cX10_first 0 = .ok (.aload_n 0, 1) := kq.at kqdX10_first_0 0 rfl
theorem dX10_first_1 : decode cX10_first 1 = .ok (.iload_n 1, 1) := kq.at kqdX10_first_0 1 rfl
theorem dX10_first_2 : decode cX10_first 2 = .ok (.iload_n 2, 1) := kq.at kqdX10_first_0 2 rfl
theorem dX10_first_3 : decode cX10_first 3 = .ok (.invokevirtual 359, 3) := kq.at kqdX10_first_0 3 rfl
theorem dX10_first_6 : decode cX10_first 6 = .ok (.istore_n 3, 1) := kq.at kqdX10_first_0 4 rfl
theorem dX10_first_7 : decode cX10_first 7 = .ok (.iload_n 3, 1) := kq.at kqdX10_first_0 5 rfl
theorem dX10_first_8 : decode cX10_first 8 = .ok (.ifCond .eq 9, 3) := kq.at kqdX10_first_0 6 rfl
theorem dX10_first_11 : decode cX10_first 11 = .ok (.aload_n 0, 1) := kq.at kqdX10_first_0 7 rfl
theorem dX10_first_12 : decode cX10_first 12 = .ok (.iload_n 3, 1) := kq.at kqdX10_first_0 8 rfl
theorem dX10_first_13 : decode cX10_first 13 = .ok (.invokevirtual 117, 3) := kq.at kqdX10_first_0 9 rfl
theorem dX10_first_16 : decode cX10_first 16 = .ok (.ireturn, 1) := kq.at kqdX10_first_0 10 rfl
theorem dX10_first_17 : decode cX10_first 17 = .ok (.aload_n 0, 1) := kq.at kqdX10_first_0 11 rfl
theorem dX10_first_18 : decode cX10_first 18 = .ok (.iload_n 1, 1) := kq.at kqdX10_first_0 12 rfl
theorem dX10_first_19 : decode cX10_first 19 = .ok (.iconst (-1), 1) := kq.at kqdX10_first_0 13 rfl
theorem dX10_first_20 : decode cX10_first 20 = .ok (.iload_n 2, 1) := kq.at kqdX10_first_0 14 rfl
theorem dX10_first_21 : decode cX10_first 21 = .ok (.invokevirtual 362, 3) := kq.at kqdX10_first_0 15 rfl
theorem dX10_first_24 : decode cX10_first 24 = .ok (.aload_n 0, 1) := kq.at kqdX10_first_0 16 rfl
theorem dX10_first_25 : decode cX10_first 25 = .ok (.getfield 85, 3) := kq.at kqdX10_first_0 17 rfl
theorem dX10_first_28 : decode cX10_first 28 = .ok (.invokevirtual 365, 3) := kq.at kqdX10_first_0 18 rfl
theorem dX10_first_31 : decode cX10_first 31 = .ok (.ifCond .ne 10, 3) := kq.at kqdX10_first_0 19 rfl
theorem dX10_first_34 : decode cX10_first 34 = .ok (.aload_n 0, 1) := kq.at kqdX10_first_0 20 rfl
theorem dX10_first_35 : decode cX10_first 35 = .ok (.bipush 6, 2) := kq.at kqdX10_first_0 21 rfl
theorem dX10_first_37 : decode cX10_first 37 = .ok (.invokevirtual 117, 3) := kq.at kqdX10_first_0 22 rfl
theorem dX10_first_40 : decode cX10_first 40 = .ok (.ireturn, 1) := kq.at kqdX10_first_0 23 rfl
theorem kqdX10_first_41 : kq cX10_first [(41, .aload_n 0, 1), (42, .getfield 85, 3), (45, .aload_n 0, 1), (46, .getfield 50, 3), (49, .invokevirtual 368, 3), (52, .aload_n 0, 1), (53, .aload_n 0, 1), (54, .getfield 85, 3), (57, .getfield 371, 3), (60, .invokevirtual 113, 3), (63, .ireturn, 1)] = true := by decide +kernel
theorem dX10_first_41 : decode cX10_first 41 = .ok (.aload_n 0, 1) := kq.at kqdX10_first_41 0 rfl
theorem dX10_first_42 : decode cX10_first 42 = .ok (.getfield 85, 3) := kq.at kqdX10_first_41 1 rfl
theorem dX10_first_45 : decode cX10_first 45 = .ok (.aload_n 0, 1) := kq.at kqdX10_first_41 2 rfl
theorem dX10_first_46 : decode cX10_first 46 = .ok (.getfield 50, 3) := kq.at kqdX10_first_41 3 rfl
theorem dX10_first_49 : decode cX10_first 49 = .ok (.invokevirtual 368, 3) := kq.at kqdX10_first_41 4 rfl
theorem dX10_first_52 : decode cX10_first 52 = .ok (.aload_n 0, 1) := kq.at kqdX10_first_41 5 rfl
theorem dX10_first_53 : decode cX10_first 53 = .ok (.aload_n 0, 1) := kq.at kqdX10_first_41 6 rfl
theorem dX10_first_54 : decode cX10_first 54 = .ok (.getfield 85, 3) := kq.at kqdX10_first_41 7 rfl
theorem dX10_first_57 : decode cX10_first 57 = .ok (.getfield 371, 3) := kq.at kqdX10_first_41 8 rfl
theorem dX10_first_60 : decode cX10_first 60 = .ok (.invokevirtual 113, 3) := kq.at kqdX10_first_41 9 rfl
theorem dX10_first_63 : decode cX10_first 63 = .ok (.ireturn, 1) := kq.at kqdX10_first_41 10 rfl
theorem kqdX10_firstAt_0 : kq cX10_firstAt [(0, .iload_n 1, 1), (1, .ifCond .lt 14, 3), (4, .iload_n 1, 1), (5, .aload_n 0, 1), (6, .getfield 85, 3), (9, .getfield 371, 3), (12, .if_icmp .lt 10, 3), (15, .aload_n 0, 1), (16, .bipush 6, 2), (18, .invokevirtual 117, 3), (21, .ireturn, 1), (22, .aload_n 0, 1), (23, .aload_n 0, 1), (24, .getfield 85, 3), (27, .getfield 374, 3), (30, .iload_n 1, 1), (31, .iaload, 1), (32, .invokevirtual 113, 3), (35, .ireturn, 1)] = true := by decide +kernel
theorem dX10_firstAt_0 : decode cX10_firstAt 0 = .ok (.iload_n 1, 1) := kq.at kqdX10_firstAt_0 0 rfl
theorem dX10_firstAt_1 : decode cX10_firstAt 1 = .ok (.ifCond .lt 14, 3) := kq.at kqdX10_firstAt_0 1 rfl
theorem dX10_firstAt_4 : decode cX10_firstAt 4 = .ok (.iload_n 1, 1) := kq.at kqdX10_firstAt_0 2 rfl
theorem dX10_firstAt_5 : decode cX10_firstAt 5 = .ok (.aload_n 0, 1) := kq.at kqdX10_firstAt_0 3 rfl
theorem dX10_firstAt_6 : decode cX10_firstAt 6 = .ok (.getfield 85, 3) := kq.at kqdX10_firstAt_0 4 rfl
theorem dX10_firstAt_9 : decode cX10_firstAt 9 = .ok (.getfield 371, 3) := kq.at kqdX10_firstAt_0 5 rfl
theorem dX10_firstAt_12 : decode cX10_firstAt 12 = .ok (.if_icmp .lt 10, 3) := kq.at kqdX10_firstAt_0 6 rfl
theorem dX10_firstAt_15 : decode cX10_firstAt 15 = .ok (.aload_n 0, 1) := kq.at kqdX10_firstAt_0 7 rfl
theorem dX10_firstAt_16 : decode cX10_firstAt 16 = .ok (.bipush 6, 2) := kq.at kqdX10_firstAt_0 8 rfl
theorem dX10_firstAt_18 : decode cX10_firstAt 18 = .ok (.invokevirtual 117, 3) := kq.at kqdX10_firstAt_0 9 rfl
theorem dX10_firstAt_21 : decode cX10_firstAt 21 = .ok (.ireturn, 1) := kq.at kqdX10_firstAt_0 10 rfl
theorem dX10_firstAt_22 : decode cX10_firstAt 22 = .ok (.aload_n 0, 1) := kq.at kqdX10_firstAt_0 11 rfl
theorem dX10_firstAt_23 : decode cX10_firstAt 23 = .ok (.aload_n 0, 1) := kq.at kqdX10_firstAt_0 12 rfl
theorem dX10_firstAt_24 : decode cX10_firstAt 24 = .ok (.getfield 85, 3) := kq.at kqdX10_firstAt_0 13 rfl
theorem dX10_firstAt_27 : decode cX10_firstAt 27 = .ok (.getfield 374, 3) := kq.at kqdX10_firstAt_0 14 rfl
theorem dX10_firstAt_30 : decode cX10_firstAt 30 = .ok (.iload_n 1, 1) := kq.at kqdX10_firstAt_0 15 rfl
theorem dX10_firstAt_31 : decode cX10_firstAt 31 = .ok (.iaload, 1) := kq.at kqdX10_firstAt_0 16 rfl
theorem dX10_firstAt_32 : decode cX10_firstAt 32 = .ok (.invokevirtual 113, 3) := kq.at kqdX10_firstAt_0 17 rfl
theorem dX10_firstAt_35 : decode cX10_firstAt 35 = .ok (.ireturn, 1) := kq.at kqdX10_firstAt_0 18 rfl
theorem kqdX10_letters_0 : kq cX10_letters [(0, .aload_n 0, 1), (1, .aload_n 0, 1), (2, .getfield 85, 3), (5, .getfield 371, 3), (8, .ifCond .le 7, 3), (11, .iconst 1, 1), (12, .goto 4, 3), (15, .iconst 0, 1), (16, .aload_n 0, 1), (17, .getfield 85, 3), (20, .getfield 377, 3), (23, .bipush 6, 2), (25, .invokevirtual 209, 3), (28, .ireturn, 1)] = true := by decide +kernel
theorem dX10_letters_0 : decode cX10_letters 0 = .ok (.aload_n 0, 1) := kq.at kqdX10_letters_0 0 rfl
theorem dX10_letters_1 : decode cX10_letters 1 = .ok (.aload_n 0, 1) := kq.at kqdX10_letters_0 1 rfl
theorem dX10_letters_2 : decode cX10_letters 2 = .ok (.getfield 85, 3) := kq.at kqdX10_letters_0 2 rfl
theorem dX10_letters_5 : decode cX10_letters 5 = .ok (.getfield 371, 3) := kq.at kqdX10_letters_0 3 rfl
theorem dX10_letters_8 : decode cX10_letters 8 = .ok (.ifCond .le 7, 3) := kq.at kqdX10_letters_0 4 rfl
theorem dX10_letters_11 : decode cX10_letters 11 = .ok (.iconst 1, 1) := kq.at kqdX10_letters_0 5 rfl
theorem dX10_letters_12 : decode cX10_letters 12 = .ok (.goto 4, 3) := kq.at kqdX10_letters_0 6 rfl
theorem dX10_letters_15 : decode cX10_letters 15 = .ok (.iconst 0, 1) := kq.at kqdX10_letters_0 7 rfl
theorem dX10_letters_16 : decode cX10_letters 16 = .ok (.aload_n 0, 1) := kq.at kqdX10_letters_0 8 rfl
theorem dX10_letters_17 : decode cX10_letters 17 = .ok (.getfield 85, 3) := kq.at kqdX10_letters_0 9 rfl
theorem dX10_letters_20 : decode cX10_letters 20 = .ok (.getfield 377, 3) := kq.at kqdX10_letters_0 10 rfl
theorem dX10_letters_23 : decode cX10_letters 23 = .ok (.bipush 6, 2) := kq.at kqdX10_letters_0 11 rfl
theorem dX10_letters_25 : decode cX10_letters 25 = .ok (.invokevirtual 209, 3) := kq.at kqdX10_letters_0 12 rfl
theorem dX10_letters_28 : decode cX10_letters 28 = .ok (.ireturn, 1) := kq.at kqdX10_letters_0 13 rfl
theorem kqdX10_truths_0 : kq cX10_truths [(0, .aload_n 0, 1), (1, .iload_n 1, 1), (2, .iload_n 2, 1), (3, .invokevirtual 359, 3), (6, .istore_n 3, 1), (7, .iload_n 3, 1), (8, .ifCond .eq 9, 3), (11, .aload_n 0, 1), (12, .iload_n 3, 1), (13, .invokevirtual 117, 3), (16, .ireturn, 1), (17, .aload_n 0, 1), (18, .iload_n 1, 1), (19, .iconst (-1), 1), (20, .iload_n 2, 1), (21, .invokevirtual 362, 3), (24, .aload_n 0, 1), (25, .getfield 85, 3), (28, .invokevirtual 365, 3), (31, .sipush 9999, 3), (34, .if_icmp .le 10, 3), (37, .aload_n 0, 1), (38, .bipush 7, 2), (40, .invokevirtual 117, 3)] = true := by decide +kernel
theorem dX10_truths_0 : decode cX10_truths 0 = .ok (.aload_n 0, 1) := kq.at kqdX10_truths_0 0 rfl
theorem dX10_truths_1 : decode cX10_truths 1 = .ok (.iload_n 1, 1) := kq.at kqdX10_truths_0 1 rfl
theorem dX10_truths_2 : decode cX10_truths 2 = .ok (.iload_n 2, 1) := kq.at kqdX10_truths_0 2 rfl
theorem dX10_truths_3 : decode cX10_truths 3 = .ok (.invokevirtual 359, 3) := kq.at kqdX10_truths_0 3 rfl
theorem dX10_truths_6 : decode cX10_truths 6 = .ok (.istore_n 3, 1) := kq.at kqdX10_truths_0 4 rfl
theorem dX10_truths_7 : decode cX10_truths 7 = .ok (.iload_n 3, 1) := kq.at kqdX10_truths_0 5 rfl
theorem dX10_truths_8 : decode cX10_truths 8 = .ok (.ifCond .eq 9, 3) := kq.at kqdX10_truths_0 6 rfl
theorem dX10_truths_11 : decode cX10_truths 11 = .ok (.aload_n 0, 1) := kq.at kqdX10_truths_0 7 rfl
theorem dX10_truths_12 : decode cX10_truths 12 = .ok (.iload_n 3, 1) := kq.at kqdX10_truths_0 8 rfl
theorem dX10_truths_13 : decode cX10_truths 13 = .ok (.invokevirtual 117, 3) := kq.at kqdX10_truths_0 9 rfl
theorem dX10_truths_16 : decode cX10_truths 16 = .ok (.ireturn, 1) := kq.at kqdX10_truths_0 10 rfl
theorem dX10_truths_17 : decode cX10_truths 17 = .ok (.aload_n 0, 1) := kq.at kqdX10_truths_0 11 rfl
theorem dX10_truths_18 : decode cX10_truths 18 = .ok (.iload_n 1, 1) := kq.at kqdX10_truths_0 12 rfl
theorem dX10_truths_19 : decode cX10_truths 19 = .ok (.iconst (-1), 1) := kq.at kqdX10_truths_0 13 rfl
theorem dX10_truths_20 : decode cX10_truths 20 = .ok (.iload_n 2, 1) := kq.at kqdX10_truths_0 14 rfl
theorem dX10_truths_21 : decode cX10_truths 21 = .ok (.invokevirtual 362, 3) := kq.at kqdX10_truths_0 15 rfl
theorem dX10_truths_24 : decode cX10_truths 24 = .ok (.aload_n 0, 1) := kq.at kqdX10_truths_0 16 rfl
theorem dX10_truths_25 : decode cX10_truths 25 = .ok (.getfield 85, 3) := kq.at kqdX10_truths_0 17 rfl
theorem dX10_truths_28 : decode cX10_truths 28 = .ok (.invokevirtual 365, 3) := kq.at kqdX10_truths_0 18 rfl
theorem dX10_truths_31 : decode cX10_truths 31 = .ok (.sipush 9999, 3) := kq.at kqdX10_truths_0 19 rfl
theorem dX10_truths_34 : decode cX10_truths 34 = .ok (.if_icmp .le 10, 3) := kq.at kqdX10_truths_0 20 rfl
theorem dX10_truths_37 : decode cX10_truths 37 = .ok (.aload_n 0, 1) := kq.at kqdX10_truths_0 21 rfl
theorem dX10_truths_38 : decode cX10_truths 38 = .ok (.bipush 7, 2) := kq.at kqdX10_truths_0 22 rfl
theorem dX10_truths_40 : decode cX10_truths 40 = .ok (.invokevirtual 117, 3) := kq.at kqdX10_truths_0 23 rfl
theorem kqdX10_truths_43 : kq cX10_truths [(43, .ireturn, 1), (44, .aload_n 0, 1), (45, .aload_n 0, 1), (46, .getfield 85, 3), (49, .aload_n 0, 1), (50, .getfield 50, 3), (53, .invokevirtual 380, 3), (56, .invokevirtual 113, 3), (59, .ireturn, 1)] = true := by decide +kernel
theorem dX10_truths_43 : decode cX10_truths 43 = .ok (.ireturn, 1) := kq.at kqdX10_truths_43 0 rfl
theorem dX10_truths_44 : decode cX10_truths 44 = .ok (.aload_n 0, 1) := kq.at kqdX10_truths_43 1 rfl
theorem dX10_truths_45 : decode cX10_truths 45 = .ok (.aload_n 0, 1) := kq.at kqdX10_truths_43 2 rfl
theorem dX10_truths_46 : decode cX10_truths 46 = .ok (.getfield 85, 3) := kq.at kqdX10_truths_43 3 rfl
theorem dX10_truths_49 : decode cX10_truths 49 = .ok (.aload_n 0, 1) := kq.at kqdX10_truths_43 4 rfl
theorem dX10_truths_50 : decode cX10_truths 50 = .ok (.getfield 50, 3) := kq.at kqdX10_truths_43 5 rfl
theorem dX10_truths_53 : decode cX10_truths 53 = .ok (.invokevirtual 380, 3) := kq.at kqdX10_truths_43 6 rfl
theorem dX10_truths_56 : decode cX10_truths 56 = .ok (.invokevirtual 113, 3) := kq.at kqdX10_truths_43 7 rfl
theorem dX10_truths_59 : decode cX10_truths 59 = .ok (.ireturn, 1) := kq.at kqdX10_truths_43 8 rfl
theorem kqdX10_failed_0 : kq cX10_failed [(0, .aload_n 0, 1), (1, .iload_n 1, 1), (2, .iload_n 2, 1), (3, .iload_n 3, 1), (4, .invokevirtual 383, 3), (7, .istore 4, 2), (9, .iload 4, 2), (11, .ifCond .eq 10, 3), (14, .aload_n 0, 1), (15, .iload 4, 2), (17, .invokevirtual 117, 3), (20, .ireturn, 1), (21, .aload_n 0, 1), (22, .iload_n 1, 1), (23, .iload_n 2, 1), (24, .iload_n 3, 1), (25, .invokevirtual 362, 3), (28, .aload_n 0, 1), (29, .aload_n 0, 1), (30, .getfield 85, 3), (33, .invokevirtual 365, 3), (36, .invokevirtual 113, 3), (39, .ireturn, 1)] = true := by decide +kernel
theorem dX10_failed_0 : decode cX10_failed 0 = .ok (.aload_n 0, 1) := kq.at kqdX10_failed_0 0 rfl
theorem dX10_failed_1 : decode cX10_failed 1 = .ok (.iload_n 1, 1) := kq.at kqdX10_failed_0 1 rfl
theorem dX10_failed_2 : decode cX10_failed 2 = .ok (.iload_n 2, 1) := kq.at kqdX10_failed_0 2 rfl
theorem dX10_failed_3 : decode cX10_failed 3 = .ok (.iload_n 3, 1) := kq.at kqdX10_failed_0 3 rfl
theorem dX10_failed_4 : decode cX10_failed 4 = .ok (.invokevirtual 383, 3) := kq.at kqdX10_failed_0 4 rfl
theorem dX10_failed_7 : decode cX10_failed 7 = .ok (.istore 4, 2) := kq.at kqdX10_failed_0 5 rfl
theorem dX10_failed_9 : decode cX10_failed 9 = .ok (.iload 4, 2) := kq.at kqdX10_failed_0 6 rfl
theorem dX10_failed_11 : decode cX10_failed 11 = .ok (.ifCond .eq 10, 3) := kq.at kqdX10_failed_0 7 rfl
theorem dX10_failed_14 : decode cX10_failed 14 = .ok (.aload_n 0, 1) := kq.at kqdX10_failed_0 8 rfl
theorem dX10_failed_15 : decode cX10_failed 15 = .ok (.iload 4, 2) := kq.at kqdX10_failed_0 9 rfl
theorem dX10_failed_17 : decode cX10_failed 17 = .ok (.invokevirtual 117, 3) := kq.at kqdX10_failed_0 10 rfl
theorem dX10_failed_20 : decode cX10_failed 20 = .ok (.ireturn, 1) := kq.at kqdX10_failed_0 11 rfl
theorem dX10_failed_21 : decode cX10_failed 21 = .ok (.aload_n 0, 1) := kq.at kqdX10_failed_0 12 rfl
theorem dX10_failed_22 : decode cX10_failed 22 = .ok (.iload_n 1, 1) := kq.at kqdX10_failed_0 13 rfl
theorem dX10_failed_23 : decode cX10_failed 23 = .ok (.iload_n 2, 1) := kq.at kqdX10_failed_0 14 rfl
theorem dX10_failed_24 : decode cX10_failed 24 = .ok (.iload_n 3, 1) := kq.at kqdX10_failed_0 15 rfl
theorem dX10_failed_25 : decode cX10_failed 25 = .ok (.invokevirtual 362, 3) := kq.at kqdX10_failed_0 16 rfl
theorem dX10_failed_28 : decode cX10_failed 28 = .ok (.aload_n 0, 1) := kq.at kqdX10_failed_0 17 rfl
theorem dX10_failed_29 : decode cX10_failed 29 = .ok (.aload_n 0, 1) := kq.at kqdX10_failed_0 18 rfl
theorem dX10_failed_30 : decode cX10_failed 30 = .ok (.getfield 85, 3) := kq.at kqdX10_failed_0 19 rfl
theorem dX10_failed_33 : decode cX10_failed 33 = .ok (.invokevirtual 365, 3) := kq.at kqdX10_failed_0 20 rfl
theorem dX10_failed_36 : decode cX10_failed 36 = .ok (.invokevirtual 113, 3) := kq.at kqdX10_failed_0 21 rfl
theorem dX10_failed_39 : decode cX10_failed 39 = .ok (.ireturn, 1) := kq.at kqdX10_failed_0 22 rfl
theorem kqdX10_mirror_0 : kq cX10_mirror [(0, .iload_n 1, 1), (1, .iconst 1, 1), (2, .if_icmp .lt 9, 3), (5, .iload_n 1, 1), (6, .bipush 63, 2), (8, .if_icmp .le 9, 3), (11, .aload_n 0, 1), (12, .iconst 1, 1), (13, .invokevirtual 117, 3), (16, .ireturn, 1), (17, .aload_n 0, 1), (18, .iload_n 1, 1), (19, .invokestatic 387, 3), (22, .invokevirtual 113, 3), (25, .ireturn, 1)] = true := by decide +kernel
theorem dX10_mirror_0 : decode cX10_mirror 0 = .ok (.iload_n 1, 1) := kq.at kqdX10_mirror_0 0 rfl
theorem dX10_mirror_1 : decode cX10_mirror 1 = .ok (.iconst 1, 1) := kq.at kqdX10_mirror_0 1 rfl
theorem dX10_mirror_2 : decode cX10_mirror 2 = .ok (.if_icmp .lt 9, 3) := kq.at kqdX10_mirror_0 2 rfl
theorem dX10_mirror_5 : decode cX10_mirror 5 = .ok (.iload_n 1, 1) := kq.at kqdX10_mirror_0 3 rfl
theorem dX10_mirror_6 : decode cX10_mirror 6 = .ok (.bipush 63, 2) := kq.at kqdX10_mirror_0 4 rfl
theorem dX10_mirror_8 : decode cX10_mirror 8 = .ok (.if_icmp .le 9, 3) := kq.at kqdX10_mirror_0 5 rfl
theorem dX10_mirror_11 : decode cX10_mirror 11 = .ok (.aload_n 0, 1) := kq.at kqdX10_mirror_0 6 rfl
theorem dX10_mirror_12 : decode cX10_mirror 12 = .ok (.iconst 1, 1) := kq.at kqdX10_mirror_0 7 rfl
theorem dX10_mirror_13 : decode cX10_mirror 13 = .ok (.invokevirtual 117, 3) := kq.at kqdX10_mirror_0 8 rfl
theorem dX10_mirror_16 : decode cX10_mirror 16 = .ok (.ireturn, 1) := kq.at kqdX10_mirror_0 9 rfl
theorem dX10_mirror_17 : decode cX10_mirror 17 = .ok (.aload_n 0, 1) := kq.at kqdX10_mirror_0 10 rfl
theorem dX10_mirror_18 : decode cX10_mirror 18 = .ok (.iload_n 1, 1) := kq.at kqdX10_mirror_0 11 rfl
theorem dX10_mirror_19 : decode cX10_mirror 19 = .ok (.invokestatic 387, 3) := kq.at kqdX10_mirror_0 12 rfl
theorem dX10_mirror_22 : decode cX10_mirror 22 = .ok (.invokevirtual 113, 3) := kq.at kqdX10_mirror_0 13 rfl
theorem dX10_mirror_25 : decode cX10_mirror 25 = .ok (.ireturn, 1) := kq.at kqdX10_mirror_0 14 rfl
theorem kqdX10_mirrorOf_0 : kq cX10_mirrorOf [(0, .iload_n 0, 1), (1, .bipush 7, 2), (3, .iand, 1), (4, .iconst 3, 1), (5, .ishl, 1), (6, .iload_n 0, 1), (7, .iconst 3, 1), (8, .ishr, 1), (9, .ior, 1), (10, .ireturn, 1)] = true := by decide +kernel
theorem dX10_mirrorOf_0 : decode cX10_mirrorOf 0 = .ok (.iload_n 0, 1) := kq.at kqdX10_mirrorOf_0 0 rfl
theorem dX10_mirrorOf_1 : decode cX10_mirrorOf 1 = .ok (.bipush 7, 2) := kq.at kqdX10_mirrorOf_0 1 rfl
theorem dX10_mirrorOf_3 : decode cX10_mirrorOf 3 = .ok (.iand, 1) := kq.at kqdX10_mirrorOf_0 2 rfl
theorem dX10_mirrorOf_4 : decode cX10_mirrorOf 4 = .ok (.iconst 3, 1) := kq.at kqdX10_mirrorOf_0 3 rfl
theorem dX10_mirrorOf_5 : decode cX10_mirrorOf 5 = .ok (.ishl, 1) := kq.at kqdX10_mirrorOf_0 4 rfl
theorem dX10_mirrorOf_6 : decode cX10_mirrorOf 6 = .ok (.iload_n 0, 1) := kq.at kqdX10_mirrorOf_0 5 rfl
theorem dX10_mirrorOf_7 : decode cX10_mirrorOf 7 = .ok (.iconst 3, 1) := kq.at kqdX10_mirrorOf_0 6 rfl
theorem dX10_mirrorOf_8 : decode cX10_mirrorOf 8 = .ok (.ishr, 1) := kq.at kqdX10_mirrorOf_0 7 rfl
theorem dX10_mirrorOf_9 : decode cX10_mirrorOf 9 = .ok (.ior, 1) := kq.at kqdX10_mirrorOf_0 8 rfl
theorem dX10_mirrorOf_10 : decode cX10_mirrorOf 10 = .ok (.ireturn, 1) := kq.at kqdX10_mirrorOf_0 9 rfl
theorem kqdX10_turned_0 : kq cX10_turned [(0, .aload_n 0, 1), (1, .getfield 50, 3), (4, .iload_n 1, 1), (5, .invokevirtual 213, 3), (8, .ifCond .ne 9, 3), (11, .aload_n 0, 1), (12, .iconst 1, 1), (13, .invokevirtual 117, 3), (16, .ireturn, 1), (17, .iconst 0, 1), (18, .istore_n 2, 1), (19, .iload_n 2, 1), (20, .aload_n 0, 1), (21, .getfield 50, 3), (24, .getfield 181, 3), (27, .if_icmp .ge 27, 3), (30, .aload_n 0, 1), (31, .getfield 50, 3), (34, .iload_n 1, 1), (35, .iload_n 2, 1), (36, .invokevirtual 390, 3), (39, .ifCond .eq 9, 3), (42, .aload_n 0, 1), (43, .iload_n 2, 1)] = true := by decide +kernel
theorem dX10_turned_0 : decode cX10_turned 0 = .ok (.aload_n 0, 1) := kq.at kqdX10_turned_0 0 rfl
theorem dX10_turned_1 : decode cX10_turned 1 = .ok (.getfield 50, 3) := kq.at kqdX10_turned_0 1 rfl
theorem dX10_turned_4 : decode cX10_turned 4 = .ok (.iload_n 1, 1) := kq.at kqdX10_turned_0 2 rfl
theorem dX10_turned_5 : decode cX10_turned 5 = .ok (.invokevirtual 213, 3) := kq.at kqdX10_turned_0 3 rfl
theorem dX10_turned_8 : decode cX10_turned 8 = .ok (.ifCond .ne 9, 3) := kq.at kqdX10_turned_0 4 rfl
theorem dX10_turned_11 : decode cX10_turned 11 = .ok (.aload_n 0, 1) := kq.at kqdX10_turned_0 5 rfl
theorem dX10_turned_12 : decode cX10_turned 12 = .ok (.iconst 1, 1) := kq.at kqdX10_turned_0 6 rfl
theorem dX10_turned_13 : decode cX10_turned 13 = .ok (.invokevirtual 117, 3) := kq.at kqdX10_turned_0 7 rfl
theorem dX10_turned_16 : decode cX10_turned 16 = .ok (.ireturn, 1) := kq.at kqdX10_turned_0 8 rfl
theorem dX10_turned_17 : decode cX10_turned 17 = .ok (.iconst 0, 1) := kq.at kqdX10_turned_0 9 rfl
theorem dX10_turned_18 : decode cX10_turned 18 = .ok (.istore_n 2, 1) := kq.at kqdX10_turned_0 10 rfl
theorem dX10_turned_19 : decode cX10_turned 19 = .ok (.iload_n 2, 1) := kq.at kqdX10_turned_0 11 rfl
theorem dX10_turned_20 : decode cX10_turned 20 = .ok (.aload_n 0, 1) := kq.at kqdX10_turned_0 12 rfl
theorem dX10_turned_21 : decode cX10_turned 21 = .ok (.getfield 50, 3) := kq.at kqdX10_turned_0 13 rfl
theorem dX10_turned_24 : decode cX10_turned 24 = .ok (.getfield 181, 3) := kq.at kqdX10_turned_0 14 rfl
theorem dX10_turned_27 : decode cX10_turned 27 = .ok (.if_icmp .ge 27, 3) := kq.at kqdX10_turned_0 15 rfl
theorem dX10_turned_30 : decode cX10_turned 30 = .ok (.aload_n 0, 1) := kq.at kqdX10_turned_0 16 rfl
theorem dX10_turned_31 : decode cX10_turned 31 = .ok (.getfield 50, 3) := kq.at kqdX10_turned_0 17 rfl
theorem dX10_turned_34 : decode cX10_turned 34 = .ok (.iload_n 1, 1) := kq.at kqdX10_turned_0 18 rfl
theorem dX10_turned_35 : decode cX10_turned 35 = .ok (.iload_n 2, 1) := kq.at kqdX10_turned_0 19 rfl
theorem dX10_turned_36 : decode cX10_turned 36 = .ok (.invokevirtual 390, 3) := kq.at kqdX10_turned_0 20 rfl
theorem dX10_turned_39 : decode cX10_turned 39 = .ok (.ifCond .eq 9, 3) := kq.at kqdX10_turned_0 21 rfl
theorem dX10_turned_42 : decode cX10_turned 42 = .ok (.aload_n 0, 1) := kq.at kqdX10_turned_0 22 rfl
theorem dX10_turned_43 : decode cX10_turned 43 = .ok (.iload_n 2, 1) := kq.at kqdX10_turned_0 23 rfl
theorem kqdX10_turned_44 : kq cX10_turned [(44, .invokevirtual 113, 3), (47, .ireturn, 1), (48, .iinc 2 1, 3), (51, .goto (-32), 3), (54, .aload_n 0, 1), (55, .bipush 6, 2), (57, .invokevirtual 117, 3), (60, .ireturn, 1)] = true := by decide +kernel
theorem dX10_turned_44 : decode cX10_turned 44 = .ok (.invokevirtual 113, 3) := kq.at kqdX10_turned_44 0 rfl
theorem dX10_turned_47 : decode cX10_turned 47 = .ok (.ireturn, 1) := kq.at kqdX10_turned_44 1 rfl
theorem dX10_turned_48 : decode cX10_turned 48 = .ok (.iinc 2 1, 3) := kq.at kqdX10_turned_44 2 rfl
theorem dX10_turned_51 : decode cX10_turned 51 = .ok (.goto (-32), 3) := kq.at kqdX10_turned_44 3 rfl
theorem dX10_turned_54 : decode cX10_turned 54 = .ok (.aload_n 0, 1) := kq.at kqdX10_turned_44 4 rfl
theorem dX10_turned_55 : decode cX10_turned 55 = .ok (.bipush 6, 2) := kq.at kqdX10_turned_44 5 rfl
theorem dX10_turned_57 : decode cX10_turned 57 = .ok (.invokevirtual 117, 3) := kq.at kqdX10_turned_44 6 rfl
theorem dX10_turned_60 : decode cX10_turned 60 = .ok (.ireturn, 1) := kq.at kqdX10_turned_44 7 rfl
theorem kqdX10_twins_0 : kq cX10_twins [(0, .aload_n 0, 1), (1, .aload_n 0, 1), (2, .getfield 50, 3), (5, .invokevirtual 394, 3), (8, .invokevirtual 113, 3), (11, .ireturn, 1)] = true := by decide +kernel
theorem dX10_twins_0 : decode cX10_twins 0 = .ok (.aload_n 0, 1) := kq.at kqdX10_twins_0 0 rfl
theorem dX10_twins_1 : decode cX10_twins 1 = .ok (.aload_n 0, 1) := kq.at kqdX10_twins_0 1 rfl
theorem dX10_twins_2 : decode cX10_twins 2 = .ok (.getfield 50, 3) := kq.at kqdX10_twins_0 2 rfl
theorem dX10_twins_5 : decode cX10_twins 5 = .ok (.invokevirtual 394, 3) := kq.at kqdX10_twins_0 3 rfl
theorem dX10_twins_8 : decode cX10_twins 8 = .ok (.invokevirtual 113, 3) := kq.at kqdX10_twins_0 4 rfl
theorem dX10_twins_11 : decode cX10_twins 11 = .ok (.ireturn, 1) := kq.at kqdX10_twins_0 5 rfl
theorem kqdX10_near_0 : kq cX10_near [(0, .aload_n 0, 1), (1, .getfield 50, 3), (4, .iload_n 1, 1), (5, .invokevirtual 213, 3), (8, .ifCond .eq 14, 3), (11, .aload_n 0, 1), (12, .getfield 50, 3), (15, .iload_n 2, 1), (16, .invokevirtual 213, 3), (19, .ifCond .ne 9, 3), (22, .aload_n 0, 1), (23, .iconst 1, 1), (24, .invokevirtual 117, 3), (27, .ireturn, 1), (28, .aload_n 0, 1), (29, .getfield 50, 3), (32, .getfield 219, 3), (35, .iload_n 1, 1), (36, .iaload, 1), (37, .aload_n 0, 1), (38, .getfield 50, 3), (41, .getfield 219, 3), (44, .iload_n 2, 1), (45, .iaload, 1)] = true := by decide +kernel
theorem dX10_near_0 : decode cX10_near 0 = .ok (.aload_n 0, 1) := kq.at kqdX10_near_0 0 rfl
theorem dX10_near_1 : decode cX10_near 1 = .ok (.getfield 50, 3) := kq.at kqdX10_near_0 1 rfl
theorem dX10_near_4 : decode cX10_near 4 = .ok (.iload_n 1, 1) := kq.at kqdX10_near_0 2 rfl
theorem dX10_near_5 : decode cX10_near 5 = .ok (.invokevirtual 213, 3) := kq.at kqdX10_near_0 3 rfl
theorem dX10_near_8 : decode cX10_near 8 = .ok (.ifCond .eq 14, 3) := kq.at kqdX10_near_0 4 rfl
theorem dX10_near_11 : decode cX10_near 11 = .ok (.aload_n 0, 1) := kq.at kqdX10_near_0 5 rfl
theorem dX10_near_12 : decode cX10_near 12 = .ok (.getfield 50, 3) := kq.at kqdX10_near_0 6 rfl
theorem dX10_near_15 : decode cX10_near 15 = .ok (.iload_n 2, 1) := kq.at kqdX10_near_0 7 rfl
theorem dX10_near_16 : decode cX10_near 16 = .ok (.invokevirtual 213, 3) := kq.at kqdX10_near_0 8 rfl
theorem dX10_near_19 : decode cX10_near 19 = .ok (.ifCond .ne 9, 3) := kq.at kqdX10_near_0 9 rfl
theorem dX10_near_22 : decode cX10_near 22 = .ok (.aload_n 0, 1) := kq.at kqdX10_near_0 10 rfl
theorem dX10_near_23 : decode cX10_near 23 = .ok (.iconst 1, 1) := kq.at kqdX10_near_0 11 rfl
theorem dX10_near_24 : decode cX10_near 24 = .ok (.invokevirtual 117, 3) := kq.at kqdX10_near_0 12 rfl
theorem dX10_near_27 : decode cX10_near 27 = .ok (.ireturn, 1) := kq.at kqdX10_near_0 13 rfl
theorem dX10_near_28 : decode cX10_near 28 = .ok (.aload_n 0, 1) := kq.at kqdX10_near_0 14 rfl
theorem dX10_near_29 : decode cX10_near 29 = .ok (.getfield 50, 3) := kq.at kqdX10_near_0 15 rfl
theorem dX10_near_32 : decode cX10_near 32 = .ok (.getfield 219, 3) := kq.at kqdX10_near_0 16 rfl
theorem dX10_near_35 : decode cX10_near 35 = .ok (.iload_n 1, 1) := kq.at kqdX10_near_0 17 rfl
theorem dX10_near_36 : decode cX10_near 36 = .ok (.iaload, 1) := kq.at kqdX10_near_0 18 rfl
theorem dX10_near_37 : decode cX10_near 37 = .ok (.aload_n 0, 1) := kq.at kqdX10_near_0 19 rfl
theorem dX10_near_38 : decode cX10_near 38 = .ok (.getfield 50, 3) := kq.at kqdX10_near_0 20 rfl
theorem dX10_near_41 : decode cX10_near 41 = .ok (.getfield 219, 3) := kq.at kqdX10_near_0 21 rfl
theorem dX10_near_44 : decode cX10_near 44 = .ok (.iload_n 2, 1) := kq.at kqdX10_near_0 22 rfl
theorem dX10_near_45 : decode cX10_near 45 = .ok (.iaload, 1) := kq.at kqdX10_near_0 23 rfl
theorem kqdX10_near_46 : kq cX10_near [(46, .if_icmp .eq 10, 3), (49, .aload_n 0, 1), (50, .bipush 7, 2), (52, .invokevirtual 117, 3), (55, .ireturn, 1), (56, .aload_n 0, 1), (57, .aload_n 0, 1), (58, .getfield 50, 3), (61, .iload_n 1, 1), (62, .iload_n 2, 1), (63, .invokevirtual 397, 3), (66, .invokevirtual 113, 3), (69, .ireturn, 1)] = true := by decide +kernel
theorem dX10_near_46 : decode cX10_near 46 = .ok (.if_icmp .eq 10, 3) := kq.at kqdX10_near_46 0 rfl
theorem dX10_near_49 : decode cX10_near 49 = .ok (.aload_n 0, 1) := kq.at kqdX10_near_46 1 rfl
theorem dX10_near_50 : decode cX10_near 50 = .ok (.bipush 7, 2) := kq.at kqdX10_near_46 2 rfl
theorem dX10_near_52 : decode cX10_near 52 = .ok (.invokevirtual 117, 3) := kq.at kqdX10_near_46 3 rfl
theorem dX10_near_55 : decode cX10_near 55 = .ok (.ireturn, 1) := kq.at kqdX10_near_46 4 rfl
theorem dX10_near_56 : decode cX10_near 56 = .ok (.aload_n 0, 1) := kq.at kqdX10_near_46 5 rfl
theorem dX10_near_57 : decode cX10_near 57 = .ok (.aload_n 0, 1) := kq.at kqdX10_near_46 6 rfl
theorem dX10_near_58 : decode cX10_near 58 = .ok (.getfield 50, 3) := kq.at kqdX10_near_46 7 rfl
theorem dX10_near_61 : decode cX10_near 61 = .ok (.iload_n 1, 1) := kq.at kqdX10_near_46 8 rfl
theorem dX10_near_62 : decode cX10_near 62 = .ok (.iload_n 2, 1) := kq.at kqdX10_near_46 9 rfl
theorem dX10_near_63 : decode cX10_near 63 = .ok (.invokevirtual 397, 3) := kq.at kqdX10_near_46 10 rfl
theorem dX10_near_66 : decode cX10_near 66 = .ok (.invokevirtual 113, 3) := kq.at kqdX10_near_46 11 rfl
theorem dX10_near_69 : decode cX10_near 69 = .ok (.ireturn, 1) := kq.at kqdX10_near_46 12 rfl
theorem kqdX10_clash_0 : kq cX10_clash [(0, .aload_n 0, 1), (1, .getfield 50, 3), (4, .iload_n 1, 1), (5, .invokevirtual 213, 3), (8, .ifCond .eq 14, 3), (11, .aload_n 0, 1), (12, .getfield 50, 3), (15, .iload_n 2, 1), (16, .invokevirtual 213, 3), (19, .ifCond .ne 9, 3), (22, .aload_n 0, 1), (23, .iconst 1, 1), (24, .invokevirtual 117, 3), (27, .ireturn, 1), (28, .aload_n 0, 1), (29, .aload_n 0, 1), (30, .getfield 50, 3), (33, .iload_n 1, 1), (34, .iload_n 2, 1), (35, .invokevirtual 400, 3), (38, .ifCond .eq 7, 3), (41, .iconst 1, 1), (42, .goto 4, 3), (45, .iconst 0, 1)] = true := by decide +kernel
theorem dX10_clash_0 : decode cX10_clash 0 = .ok (.aload_n 0, 1) := kq.at kqdX10_clash_0 0 rfl
theorem dX10_clash_1 : decode cX10_clash 1 = .ok (.getfield 50, 3) := kq.at kqdX10_clash_0 1 rfl
theorem dX10_clash_4 : decode cX10_clash 4 = .ok (.iload_n 1, 1) := kq.at kqdX10_clash_0 2 rfl
theorem dX10_clash_5 : decode cX10_clash 5 = .ok (.invokevirtual 213, 3) := kq.at kqdX10_clash_0 3 rfl
theorem dX10_clash_8 : decode cX10_clash 8 = .ok (.ifCond .eq 14, 3) := kq.at kqdX10_clash_0 4 rfl
theorem dX10_clash_11 : decode cX10_clash 11 = .ok (.aload_n 0, 1) := kq.at kqdX10_clash_0 5 rfl
theorem dX10_clash_12 : decode cX10_clash 12 = .ok (.getfield 50, 3) := kq.at kqdX10_clash_0 6 rfl
theorem dX10_clash_15 : decode cX10_clash 15 = .ok (.iload_n 2, 1) := kq.at kqdX10_clash_0 7 rfl
theorem dX10_clash_16 : decode cX10_clash 16 = .ok (.invokevirtual 213, 3) := kq.at kqdX10_clash_0 8 rfl
theorem dX10_clash_19 : decode cX10_clash 19 = .ok (.ifCond .ne 9, 3) := kq.at kqdX10_clash_0 9 rfl
theorem dX10_clash_22 : decode cX10_clash 22 = .ok (.aload_n 0, 1) := kq.at kqdX10_clash_0 10 rfl
theorem dX10_clash_23 : decode cX10_clash 23 = .ok (.iconst 1, 1) := kq.at kqdX10_clash_0 11 rfl
theorem dX10_clash_24 : decode cX10_clash 24 = .ok (.invokevirtual 117, 3) := kq.at kqdX10_clash_0 12 rfl
theorem dX10_clash_27 : decode cX10_clash 27 = .ok (.ireturn, 1) := kq.at kqdX10_clash_0 13 rfl
theorem dX10_clash_28 : decode cX10_clash 28 = .ok (.aload_n 0, 1) := kq.at kqdX10_clash_0 14 rfl
theorem dX10_clash_29 : decode cX10_clash 29 = .ok (.aload_n 0, 1) := kq.at kqdX10_clash_0 15 rfl
theorem dX10_clash_30 : decode cX10_clash 30 = .ok (.getfield 50, 3) := kq.at kqdX10_clash_0 16 rfl
theorem dX10_clash_33 : decode cX10_clash 33 = .ok (.iload_n 1, 1) := kq.at kqdX10_clash_0 17 rfl
theorem dX10_clash_34 : decode cX10_clash 34 = .ok (.iload_n 2, 1) := kq.at kqdX10_clash_0 18 rfl
theorem dX10_clash_35 : decode cX10_clash 35 = .ok (.invokevirtual 400, 3) := kq.at kqdX10_clash_0 19 rfl
theorem dX10_clash_38 : decode cX10_clash 38 = .ok (.ifCond .eq 7, 3) := kq.at kqdX10_clash_0 20 rfl
theorem dX10_clash_41 : decode cX10_clash 41 = .ok (.iconst 1, 1) := kq.at kqdX10_clash_0 21 rfl
theorem dX10_clash_42 : decode cX10_clash 42 = .ok (.goto 4, 3) := kq.at kqdX10_clash_0 22 rfl
theorem dX10_clash_45 : decode cX10_clash 45 = .ok (.iconst 0, 1) := kq.at kqdX10_clash_0 23 rfl
theorem kqdX10_clash_46 : kq cX10_clash [(46, .invokevirtual 113, 3), (49, .ireturn, 1)] = true := by decide +kernel
theorem dX10_clash_46 : decode cX10_clash 46 = .ok (.invokevirtual 113, 3) := kq.at kqdX10_clash_46 0 rfl
theorem dX10_clash_49 : decode cX10_clash 49 = .ok (.ireturn, 1) := kq.at kqdX10_clash_46 1 rfl
theorem kqdX10_clashes_0 : kq cX10_clashes [(0, .aload_n 0, 1), (1, .aload_n 0, 1), (2, .getfield 50, 3), (5, .invokevirtual 403, 3), (8, .invokevirtual 113, 3), (11, .ireturn, 1)] = true := by decide +kernel
theorem dX10_clashes_0 : decode cX10_clashes 0 = .ok (.aload_n 0, 1) := kq.at kqdX10_clashes_0 0 rfl
theorem dX10_clashes_1 : decode cX10_clashes 1 = .ok (.aload_n 0, 1) := kq.at kqdX10_clashes_0 1 rfl
theorem dX10_clashes_2 : decode cX10_clashes 2 = .ok (.getfield 50, 3) := kq.at kqdX10_clashes_0 2 rfl
theorem dX10_clashes_5 : decode cX10_clashes 5 = .ok (.invokevirtual 403, 3) := kq.at kqdX10_clashes_0 3 rfl
theorem dX10_clashes_8 : decode cX10_clashes 8 = .ok (.invokevirtual 113, 3) := kq.at kqdX10_clashes_0 4 rfl
theorem dX10_clashes_11 : decode cX10_clashes 11 = .ok (.ireturn, 1) := kq.at kqdX10_clashes_0 5 rfl
theorem kqdX10_clear_0 : kq cX10_clear [(0, .aload_n 0, 1), (1, .aload_n 0, 1), (2, .getfield 92, 3), (5, .aload_n 0, 1), (6, .getfield 50, 3), (9, .invokevirtual 406, 3), (12, .iconst (-1), 1), (13, .if_icmp .ne 7, 3), (16, .iconst 1, 1), (17, .goto 4, 3), (20, .iconst 0, 1), (21, .invokevirtual 113, 3), (24, .ireturn, 1)] = true := by decide +kernel
theorem dX10_clear_0 : decode cX10_clear 0 = .ok (.aload_n 0, 1) := kq.at kqdX10_clear_0 0 rfl
theorem dX10_clear_1 : decode cX10_clear 1 = .ok (.aload_n 0, 1) := kq.at kqdX10_clear_0 1 rfl
theorem dX10_clear_2 : decode cX10_clear 2 = .ok (.getfield 92, 3) := kq.at kqdX10_clear_0 2 rfl
theorem dX10_clear_5 : decode cX10_clear 5 = .ok (.aload_n 0, 1) := kq.at kqdX10_clear_0 3 rfl
theorem dX10_clear_6 : decode cX10_clear 6 = .ok (.getfield 50, 3) := kq.at kqdX10_clear_0 4 rfl
theorem dX10_clear_9 : decode cX10_clear 9 = .ok (.invokevirtual 406, 3) := kq.at kqdX10_clear_0 5 rfl
theorem dX10_clear_12 : decode cX10_clear 12 = .ok (.iconst (-1), 1) := kq.at kqdX10_clear_0 6 rfl
theorem dX10_clear_13 : decode cX10_clear 13 = .ok (.if_icmp .ne 7, 3) := kq.at kqdX10_clear_0 7 rfl
theorem dX10_clear_16 : decode cX10_clear 16 = .ok (.iconst 1, 1) := kq.at kqdX10_clear_0 8 rfl
theorem dX10_clear_17 : decode cX10_clear 17 = .ok (.goto 4, 3) := kq.at kqdX10_clear_0 9 rfl
theorem dX10_clear_20 : decode cX10_clear 20 = .ok (.iconst 0, 1) := kq.at kqdX10_clear_0 10 rfl
theorem dX10_clear_21 : decode cX10_clear 21 = .ok (.invokevirtual 113, 3) := kq.at kqdX10_clear_0 11 rfl
theorem dX10_clear_24 : decode cX10_clear 24 = .ok (.ireturn, 1) := kq.at kqdX10_clear_0 12 rfl
theorem kqdX10_twin_0 : kq cX10_twin [(0, .aload_n 0, 1), (1, .getfield 92, 3), (4, .aload_n 0, 1), (5, .getfield 50, 3), (8, .invokevirtual 406, 3), (11, .istore_n 1, 1), (12, .aload_n 0, 1), (13, .iload_n 1, 1), (14, .iconst (-1), 1), (15, .if_icmp .eq 7, 3), (18, .iconst 1, 1), (19, .goto 4, 3), (22, .iconst 0, 1), (23, .iload_n 1, 1), (24, .bipush 6, 2), (26, .invokevirtual 209, 3), (29, .ireturn, 1)] = true := by decide +kernel
theorem dX10_twin_0 : decode cX10_twin 0 = .ok (.aload_n 0, 1) := kq.at kqdX10_twin_0 0 rfl
theorem dX10_twin_1 : decode cX10_twin 1 = .ok (.getfield 92, 3) := kq.at kqdX10_twin_0 1 rfl
theorem dX10_twin_4 : decode cX10_twin 4 = .ok (.aload_n 0, 1) := kq.at kqdX10_twin_0 2 rfl
theorem dX10_twin_5 : decode cX10_twin 5 = .ok (.getfield 50, 3) := kq.at kqdX10_twin_0 3 rfl
theorem dX10_twin_8 : decode cX10_twin 8 = .ok (.invokevirtual 406, 3) := kq.at kqdX10_twin_0 4 rfl
theorem dX10_twin_11 : decode cX10_twin 11 = .ok (.istore_n 1, 1) := kq.at kqdX10_twin_0 5 rfl
theorem dX10_twin_12 : decode cX10_twin 12 = .ok (.aload_n 0, 1) := kq.at kqdX10_twin_0 6 rfl
theorem dX10_twin_13 : decode cX10_twin 13 = .ok (.iload_n 1, 1) := kq.at kqdX10_twin_0 7 rfl
theorem dX10_twin_14 : decode cX10_twin 14 = .ok (.iconst (-1), 1) := kq.at kqdX10_twin_0 8 rfl
theorem dX10_twin_15 : decode cX10_twin 15 = .ok (.if_icmp .eq 7, 3) := kq.at kqdX10_twin_0 9 rfl
theorem dX10_twin_18 : decode cX10_twin 18 = .ok (.iconst 1, 1) := kq.at kqdX10_twin_0 10 rfl
theorem dX10_twin_19 : decode cX10_twin 19 = .ok (.goto 4, 3) := kq.at kqdX10_twin_0 11 rfl
theorem dX10_twin_22 : decode cX10_twin 22 = .ok (.iconst 0, 1) := kq.at kqdX10_twin_0 12 rfl
theorem dX10_twin_23 : decode cX10_twin 23 = .ok (.iload_n 1, 1) := kq.at kqdX10_twin_0 13 rfl
theorem dX10_twin_24 : decode cX10_twin 24 = .ok (.bipush 6, 2) := kq.at kqdX10_twin_0 14 rfl
theorem dX10_twin_26 : decode cX10_twin 26 = .ok (.invokevirtual 209, 3) := kq.at kqdX10_twin_0 15 rfl
theorem dX10_twin_29 : decode cX10_twin 29 = .ok (.ireturn, 1) := kq.at kqdX10_twin_0 16 rfl
theorem kqdX10_lacks_0 : kq cX10_lacks [(0, .iconst 0, 1), (1, .istore_n 1, 1), (2, .iconst 1, 1), (3, .istore_n 2, 1), (4, .iload_n 2, 1), (5, .bipush 26, 2), (7, .if_icmp .gt 36, 3), (10, .aload_n 0, 1), (11, .getfield 50, 3), (14, .iload_n 2, 1), (15, .aload_n 0, 1), (16, .getfield 50, 3), (19, .getfield 184, 3), (22, .invokevirtual 409, 3), (25, .iconst (-1), 1), (26, .if_icmp .ne 11, 3), (29, .iload_n 1, 1), (30, .iconst 1, 1), (31, .iload_n 2, 1), (32, .iconst 1, 1), (33, .isub, 1), (34, .ishl, 1), (35, .ior, 1), (36, .istore_n 1, 1)] = true := by decide +kernel
theorem dX10_lacks_0 : decode cX10_lacks 0 = .ok (.iconst 0, 1) := kq.at kqdX10_lacks_0 0 rfl
theorem dX10_lacks_1 : decode cX10_lacks 1 = .ok (.istore_n 1, 1) := kq.at kqdX10_lacks_0 1 rfl
theorem dX10_lacks_2 : decode cX10_lacks 2 = .ok (.iconst 1, 1) := kq.at kqdX10_lacks_0 2 rfl
theorem dX10_lacks_3 : decode cX10_lacks 3 = .ok (.istore_n 2, 1) := kq.at kqdX10_lacks_0 3 rfl
theorem dX10_lacks_4 : decode cX10_lacks 4 = .ok (.iload_n 2, 1) := kq.at kqdX10_lacks_0 4 rfl
theorem dX10_lacks_5 : decode cX10_lacks 5 = .ok (.bipush 26, 2) := kq.at kqdX10_lacks_0 5 rfl
theorem dX10_lacks_7 : decode cX10_lacks 7 = .ok (.if_icmp .gt 36, 3) := kq.at kqdX10_lacks_0 6 rfl
theorem dX10_lacks_10 : decode cX10_lacks 10 = .ok (.aload_n 0, 1) := kq.at kqdX10_lacks_0 7 rfl
theorem dX10_lacks_11 : decode cX10_lacks 11 = .ok (.getfield 50, 3) := kq.at kqdX10_lacks_0 8 rfl
theorem dX10_lacks_14 : decode cX10_lacks 14 = .ok (.iload_n 2, 1) := kq.at kqdX10_lacks_0 9 rfl
theorem dX10_lacks_15 : decode cX10_lacks 15 = .ok (.aload_n 0, 1) := kq.at kqdX10_lacks_0 10 rfl
theorem dX10_lacks_16 : decode cX10_lacks 16 = .ok (.getfield 50, 3) := kq.at kqdX10_lacks_0 11 rfl
theorem dX10_lacks_19 : decode cX10_lacks 19 = .ok (.getfield 184, 3) := kq.at kqdX10_lacks_0 12 rfl
theorem dX10_lacks_22 : decode cX10_lacks 22 = .ok (.invokevirtual 409, 3) := kq.at kqdX10_lacks_0 13 rfl
theorem dX10_lacks_25 : decode cX10_lacks 25 = .ok (.iconst (-1), 1) := kq.at kqdX10_lacks_0 14 rfl
theorem dX10_lacks_26 : decode cX10_lacks 26 = .ok (.if_icmp .ne 11, 3) := kq.at kqdX10_lacks_0 15 rfl
theorem dX10_lacks_29 : decode cX10_lacks 29 = .ok (.iload_n 1, 1) := kq.at kqdX10_lacks_0 16 rfl
theorem dX10_lacks_30 : decode cX10_lacks 30 = .ok (.iconst 1, 1) := kq.at kqdX10_lacks_0 17 rfl
theorem dX10_lacks_31 : decode cX10_lacks 31 = .ok (.iload_n 2, 1) := kq.at kqdX10_lacks_0 18 rfl
theorem dX10_lacks_32 : decode cX10_lacks 32 = .ok (.iconst 1, 1) := kq.at kqdX10_lacks_0 19 rfl
theorem dX10_lacks_33 : decode cX10_lacks 33 = .ok (.isub, 1) := kq.at kqdX10_lacks_0 20 rfl
theorem dX10_lacks_34 : decode cX10_lacks 34 = .ok (.ishl, 1) := kq.at kqdX10_lacks_0 21 rfl
theorem dX10_lacks_35 : decode cX10_lacks 35 = .ok (.ior, 1) := kq.at kqdX10_lacks_0 22 rfl
theorem dX10_lacks_36 : decode cX10_lacks 36 = .ok (.istore_n 1, 1) := kq.at kqdX10_lacks_0 23 rfl
theorem kqdX10_lacks_37 : kq cX10_lacks [(37, .iinc 2 1, 3), (40, .goto (-36), 3), (43, .aload_n 0, 1), (44, .iload_n 1, 1), (45, .invokevirtual 113, 3), (48, .ireturn, 1)] = true := by decide +kernel
theorem dX10_lacks_37 : decode cX10_lacks 37 = .ok (.iinc 2 1, 3) := kq.at kqdX10_lacks_37 0 rfl
theorem dX10_lacks_40 : decode cX10_lacks 40 = .ok (.goto (-36), 3) := kq.at kqdX10_lacks_37 1 rfl
theorem dX10_lacks_43 : decode cX10_lacks 43 = .ok (.aload_n 0, 1) := kq.at kqdX10_lacks_37 2 rfl
theorem dX10_lacks_44 : decode cX10_lacks 44 = .ok (.iload_n 1, 1) := kq.at kqdX10_lacks_37 3 rfl
theorem dX10_lacks_45 : decode cX10_lacks 45 = .ok (.invokevirtual 113, 3) := kq.at kqdX10_lacks_37 4 rfl
theorem dX10_lacks_48 : decode cX10_lacks 48 = .ok (.ireturn, 1) := kq.at kqdX10_lacks_37 5 rfl
theorem kqdX10_areDraws_0 : kq cX10_areDraws [(0, .iload_n 0, 1), (1, .ifCond .lt 24, 3), (4, .iload_n 0, 1), (5, .sipush 9999, 3), (8, .if_icmp .gt 17, 3), (11, .iload_n 1, 1), (12, .ifCond .lt 13, 3), (15, .iload_n 1, 1), (16, .bipush 16, 2), (18, .if_icmp .gt 7, 3), (21, .iconst 1, 1), (22, .goto 4, 3), (25, .iconst 0, 1), (26, .ireturn, 1)] = true := by decide +kernel
theorem dX10_areDraws_0 : decode cX10_areDraws 0 = .ok (.iload_n 0, 1) := kq.at kqdX10_areDraws_0 0 rfl
theorem dX10_areDraws_1 : decode cX10_areDraws 1 = .ok (.ifCond .lt 24, 3) := kq.at kqdX10_areDraws_0 1 rfl
theorem dX10_areDraws_4 : decode cX10_areDraws 4 = .ok (.iload_n 0, 1) := kq.at kqdX10_areDraws_0 2 rfl
theorem dX10_areDraws_5 : decode cX10_areDraws 5 = .ok (.sipush 9999, 3) := kq.at kqdX10_areDraws_0 3 rfl
theorem dX10_areDraws_8 : decode cX10_areDraws 8 = .ok (.if_icmp .gt 17, 3) := kq.at kqdX10_areDraws_0 4 rfl
theorem dX10_areDraws_11 : decode cX10_areDraws 11 = .ok (.iload_n 1, 1) := kq.at kqdX10_areDraws_0 5 rfl
theorem dX10_areDraws_12 : decode cX10_areDraws 12 = .ok (.ifCond .lt 13, 3) := kq.at kqdX10_areDraws_0 6 rfl
theorem dX10_areDraws_15 : decode cX10_areDraws 15 = .ok (.iload_n 1, 1) := kq.at kqdX10_areDraws_0 7 rfl
theorem dX10_areDraws_16 : decode cX10_areDraws 16 = .ok (.bipush 16, 2) := kq.at kqdX10_areDraws_0 8 rfl
theorem dX10_areDraws_18 : decode cX10_areDraws 18 = .ok (.if_icmp .gt 7, 3) := kq.at kqdX10_areDraws_0 9 rfl
theorem dX10_areDraws_21 : decode cX10_areDraws 21 = .ok (.iconst 1, 1) := kq.at kqdX10_areDraws_0 10 rfl
theorem dX10_areDraws_22 : decode cX10_areDraws 22 = .ok (.goto 4, 3) := kq.at kqdX10_areDraws_0 11 rfl
theorem dX10_areDraws_25 : decode cX10_areDraws 25 = .ok (.iconst 0, 1) := kq.at kqdX10_areDraws_0 12 rfl
theorem dX10_areDraws_26 : decode cX10_areDraws 26 = .ok (.ireturn, 1) := kq.at kqdX10_areDraws_0 13 rfl
theorem kqdX10_worn_0 : kq cX10_worn [(0, .iload_n 1, 1), (1, .iload_n 2, 1), (2, .invokestatic 412, 3), (5, .ifCond .ne 9, 3), (8, .aload_n 0, 1), (9, .iconst 1, 1), (10, .invokevirtual 117, 3), (13, .ireturn, 1), (14, .aload_n 0, 1), (15, .getfield 61, 3), (18, .ifCond .ne 10, 3), (21, .aload_n 0, 1), (22, .bipush 6, 2), (24, .invokevirtual 117, 3), (27, .ireturn, 1), (28, .aload_n 0, 1), (29, .aload_n 0, 1), (30, .getfield 99, 3), (33, .aload_n 0, 1), (34, .getfield 68, 3), (37, .iload_n 1, 1), (38, .iload_n 2, 1), (39, .invokevirtual 415, 3), (42, .invokevirtual 113, 3)] = true := by decide +kernel
theorem dX10_worn_0 : decode cX10_worn 0 = .ok (.iload_n 1, 1) := kq.at kqdX10_worn_0 0 rfl
theorem dX10_worn_1 : decode cX10_worn 1 = .ok (.iload_n 2, 1) := kq.at kqdX10_worn_0 1 rfl
theorem dX10_worn_2 : decode cX10_worn 2 = .ok (.invokestatic 412, 3) := kq.at kqdX10_worn_0 2 rfl
theorem dX10_worn_5 : decode cX10_worn 5 = .ok (.ifCond .ne 9, 3) := kq.at kqdX10_worn_0 3 rfl
theorem dX10_worn_8 : decode cX10_worn 8 = .ok (.aload_n 0, 1) := kq.at kqdX10_worn_0 4 rfl
theorem dX10_worn_9 : decode cX10_worn 9 = .ok (.iconst 1, 1) := kq.at kqdX10_worn_0 5 rfl
theorem dX10_worn_10 : decode cX10_worn 10 = .ok (.invokevirtual 117, 3) := kq.at kqdX10_worn_0 6 rfl
theorem dX10_worn_13 : decode cX10_worn 13 = .ok (.ireturn, 1) := kq.at kqdX10_worn_0 7 rfl
theorem dX10_worn_14 : decode cX10_worn 14 = .ok (.aload_n 0, 1) := kq.at kqdX10_worn_0 8 rfl
theorem dX10_worn_15 : decode cX10_worn 15 = .ok (.getfield 61, 3) := kq.at kqdX10_worn_0 9 rfl
theorem dX10_worn_18 : decode cX10_worn 18 = .ok (.ifCond .ne 10, 3) := kq.at kqdX10_worn_0 10 rfl
theorem dX10_worn_21 : decode cX10_worn 21 = .ok (.aload_n 0, 1) := kq.at kqdX10_worn_0 11 rfl
theorem dX10_worn_22 : decode cX10_worn 22 = .ok (.bipush 6, 2) := kq.at kqdX10_worn_0 12 rfl
theorem dX10_worn_24 : decode cX10_worn 24 = .ok (.invokevirtual 117, 3) := kq.at kqdX10_worn_0 13 rfl
theorem dX10_worn_27 : decode cX10_worn 27 = .ok (.ireturn, 1) := kq.at kqdX10_worn_0 14 rfl
theorem dX10_worn_28 : decode cX10_worn 28 = .ok (.aload_n 0, 1) := kq.at kqdX10_worn_0 15 rfl
theorem dX10_worn_29 : decode cX10_worn 29 = .ok (.aload_n 0, 1) := kq.at kqdX10_worn_0 16 rfl
theorem dX10_worn_30 : decode cX10_worn 30 = .ok (.getfield 99, 3) := kq.at kqdX10_worn_0 17 rfl
theorem dX10_worn_33 : decode cX10_worn 33 = .ok (.aload_n 0, 1) := kq.at kqdX10_worn_0 18 rfl
theorem dX10_worn_34 : decode cX10_worn 34 = .ok (.getfield 68, 3) := kq.at kqdX10_worn_0 19 rfl
theorem dX10_worn_37 : decode cX10_worn 37 = .ok (.iload_n 1, 1) := kq.at kqdX10_worn_0 20 rfl
theorem dX10_worn_38 : decode cX10_worn 38 = .ok (.iload_n 2, 1) := kq.at kqdX10_worn_0 21 rfl
theorem dX10_worn_39 : decode cX10_worn 39 = .ok (.invokevirtual 415, 3) := kq.at kqdX10_worn_0 22 rfl
theorem dX10_worn_42 : decode cX10_worn 42 = .ok (.invokevirtual 113, 3) := kq.at kqdX10_worn_0 23 rfl
theorem dX10_worn_45 : decode cX10_worn 45 = .ok (.ireturn, 1) := by decide +kernel
theorem kqdX10_wornAt_0 : kq cX10_wornAt [(0, .iload_n 1, 1), (1, .ifCond .lt 14, 3), (4, .iload_n 1, 1), (5, .aload_n 0, 1), (6, .getfield 99, 3), (9, .getfield 419, 3), (12, .if_icmp .lt 10, 3), (15, .aload_n 0, 1), (16, .bipush 6, 2), (18, .invokevirtual 117, 3), (21, .ireturn, 1), (22, .aload_n 0, 1), (23, .aload_n 0, 1), (24, .getfield 99, 3), (27, .getfield 420, 3), (30, .iload_n 1, 1), (31, .iaload, 1), (32, .invokevirtual 113, 3), (35, .ireturn, 1)] = true := by decide +kernel
theorem dX10_wornAt_0 : decode cX10_wornAt 0 = .ok (.iload_n 1, 1) := kq.at kqdX10_wornAt_0 0 rfl
theorem dX10_wornAt_1 : decode cX10_wornAt 1 = .ok (.ifCond .lt 14, 3) := kq.at kqdX10_wornAt_0 1 rfl
theorem dX10_wornAt_4 : decode cX10_wornAt 4 = .ok (.iload_n 1, 1) := kq.at kqdX10_wornAt_0 2 rfl
theorem dX10_wornAt_5 : decode cX10_wornAt 5 = .ok (.aload_n 0, 1) := kq.at kqdX10_wornAt_0 3 rfl
theorem dX10_wornAt_6 : decode cX10_wornAt 6 = .ok (.getfield 99, 3) := kq.at kqdX10_wornAt_0 4 rfl
theorem dX10_wornAt_9 : decode cX10_wornAt 9 = .ok (.getfield 419, 3) := kq.at kqdX10_wornAt_0 5 rfl
theorem dX10_wornAt_12 : decode cX10_wornAt 12 = .ok (.if_icmp .lt 10, 3) := kq.at kqdX10_wornAt_0 6 rfl
theorem dX10_wornAt_15 : decode cX10_wornAt 15 = .ok (.aload_n 0, 1) := kq.at kqdX10_wornAt_0 7 rfl
theorem dX10_wornAt_16 : decode cX10_wornAt 16 = .ok (.bipush 6, 2) := kq.at kqdX10_wornAt_0 8 rfl
theorem dX10_wornAt_18 : decode cX10_wornAt 18 = .ok (.invokevirtual 117, 3) := kq.at kqdX10_wornAt_0 9 rfl
theorem dX10_wornAt_21 : decode cX10_wornAt 21 = .ok (.ireturn, 1) := kq.at kqdX10_wornAt_0 10 rfl
theorem dX10_wornAt_22 : decode cX10_wornAt 22 = .ok (.aload_n 0, 1) := kq.at kqdX10_wornAt_0 11 rfl
theorem dX10_wornAt_23 : decode cX10_wornAt 23 = .ok (.aload_n 0, 1) := kq.at kqdX10_wornAt_0 12 rfl
theorem dX10_wornAt_24 : decode cX10_wornAt 24 = .ok (.getfield 99, 3) := kq.at kqdX10_wornAt_0 13 rfl
theorem dX10_wornAt_27 : decode cX10_wornAt 27 = .ok (.getfield 420, 3) := kq.at kqdX10_wornAt_0 14 rfl
theorem dX10_wornAt_30 : decode cX10_wornAt 30 = .ok (.iload_n 1, 1) := kq.at kqdX10_wornAt_0 15 rfl
theorem dX10_wornAt_31 : decode cX10_wornAt 31 = .ok (.iaload, 1) := kq.at kqdX10_wornAt_0 16 rfl
theorem dX10_wornAt_32 : decode cX10_wornAt 32 = .ok (.invokevirtual 113, 3) := kq.at kqdX10_wornAt_0 17 rfl
theorem dX10_wornAt_35 : decode cX10_wornAt 35 = .ok (.ireturn, 1) := kq.at kqdX10_wornAt_0 18 rfl
theorem kqdX10_odds_0 : kq cX10_odds [(0, .iload_n 1, 1), (1, .iload_n 3, 1), (2, .invokestatic 412, 3), (5, .ifCond .eq 18, 3), (8, .iload_n 2, 1), (9, .iconst 1, 1), (10, .if_icmp .lt 13, 3), (13, .iload_n 2, 1), (14, .bipush 20, 2), (16, .if_icmp .gt 7, 3), (19, .iconst 1, 1), (20, .goto 4, 3), (23, .iconst 0, 1), (24, .istore 4, 2), (26, .iload 4, 2), (28, .ifCond .eq 14, 3), (31, .iload_n 1, 1), (32, .iload_n 2, 1), (33, .iadd, 1), (34, .iconst 1, 1), (35, .isub, 1), (36, .sipush 9999, 3), (39, .if_icmp .le 9, 3), (42, .aload_n 0, 1)] = true := by decide +kernel
theorem dX10_odds_0 : decode cX10_odds 0 = .ok (.iload_n 1, 1) := kq.at kqdX10_odds_0 0 rfl
theorem dX10_odds_1 : decode cX10_odds 1 = .ok (.iload_n 3, 1) := kq.at kqdX10_odds_0 1 rfl
theorem dX10_odds_2 : decode cX10_odds 2 = .ok (.invokestatic 412, 3) := kq.at kqdX10_odds_0 2 rfl
theorem dX10_odds_5 : decode cX10_odds 5 = .ok (.ifCond .eq 18, 3) := kq.at kqdX10_odds_0 3 rfl
theorem dX10_odds_8 : decode cX10_odds 8 = .ok (.iload_n 2, 1) := kq.at kqdX10_odds_0 4 rfl
theorem dX10_odds_9 : decode cX10_odds 9 = .ok (.iconst 1, 1) := kq.at kqdX10_odds_0 5 rfl
theorem dX10_odds_10 : decode cX10_odds 10 = .ok (.if_icmp .lt 13, 3) := kq.at kqdX10_odds_0 6 rfl
theorem dX10_odds_13 : decode cX10_odds 13 = .ok (.iload_n 2, 1) := kq.at kqdX10_odds_0 7 rfl
theorem dX10_odds_14 : decode cX10_odds 14 = .ok (.bipush 20, 2) := kq.at kqdX10_odds_0 8 rfl
theorem dX10_odds_16 : decode cX10_odds 16 = .ok (.if_icmp .gt 7, 3) := kq.at kqdX10_odds_0 9 rfl
theorem dX10_odds_19 : decode cX10_odds 19 = .ok (.iconst 1, 1) := kq.at kqdX10_odds_0 10 rfl
theorem dX10_odds_20 : decode cX10_odds 20 = .ok (.goto 4, 3) := kq.at kqdX10_odds_0 11 rfl
theorem dX10_odds_23 : decode cX10_odds 23 = .ok (.iconst 0, 1) := kq.at kqdX10_odds_0 12 rfl
theorem dX10_odds_24 : decode cX10_odds 24 = .ok (.istore 4, 2) := kq.at kqdX10_odds_0 13 rfl
theorem dX10_odds_26 : decode cX10_odds 26 = .ok (.iload 4, 2) := kq.at kqdX10_odds_0 14 rfl
theorem dX10_odds_28 : decode cX10_odds 28 = .ok (.ifCond .eq 14, 3) := kq.at kqdX10_odds_0 15 rfl
theorem dX10_odds_31 : decode cX10_odds 31 = .ok (.iload_n 1, 1) := kq.at kqdX10_odds_0 16 rfl
theorem dX10_odds_32 : decode cX10_odds 32 = .ok (.iload_n 2, 1) := kq.at kqdX10_odds_0 17 rfl
theorem dX10_odds_33 : decode cX10_odds 33 = .ok (.iadd, 1) := kq.at kqdX10_odds_0 18 rfl
theorem dX10_odds_34 : decode cX10_odds 34 = .ok (.iconst 1, 1) := kq.at kqdX10_odds_0 19 rfl
theorem dX10_odds_35 : decode cX10_odds 35 = .ok (.isub, 1) := kq.at kqdX10_odds_0 20 rfl
theorem dX10_odds_36 : decode cX10_odds 36 = .ok (.sipush 9999, 3) := kq.at kqdX10_odds_0 21 rfl
theorem dX10_odds_39 : decode cX10_odds 39 = .ok (.if_icmp .le 9, 3) := kq.at kqdX10_odds_0 22 rfl
theorem dX10_odds_42 : decode cX10_odds 42 = .ok (.aload_n 0, 1) := kq.at kqdX10_odds_0 23 rfl
theorem kqdX10_odds_43 : kq cX10_odds [(43, .iconst 1, 1), (44, .invokevirtual 127, 3), (47, .ireturn, 1), (48, .aload_n 0, 1), (49, .getfield 61, 3), (52, .ifCond .ne 10, 3), (55, .aload_n 0, 1), (56, .bipush 6, 2), (58, .invokevirtual 127, 3), (61, .ireturn, 1), (62, .iconst 0, 1), (63, .istore 5, 2), (65, .iconst 0, 1), (66, .istore 6, 2), (68, .iload 6, 2), (70, .iload_n 2, 1), (71, .if_icmp .ge 31, 3), (74, .aload_n 0, 1), (75, .getfield 99, 3), (78, .aload_n 0, 1), (79, .getfield 68, 3), (82, .iload_n 1, 1), (83, .iload 6, 2), (85, .iadd, 1)] = true := by decide +kernel
theorem dX10_odds_43 : decode cX10_odds 43 = .ok (.iconst 1, 1) := kq.at kqdX10_odds_43 0 rfl
theorem dX10_odds_44 : decode cX10_odds 44 = .ok (.invokevirtual 127, 3) := kq.at kqdX10_odds_43 1 rfl
theorem dX10_odds_47 : decode cX10_odds 47 = .ok (.ireturn, 1) := kq.at kqdX10_odds_43 2 rfl
theorem dX10_odds_48 : decode cX10_odds 48 = .ok (.aload_n 0, 1) := kq.at kqdX10_odds_43 3 rfl
theorem dX10_odds_49 : decode cX10_odds 49 = .ok (.getfield 61, 3) := kq.at kqdX10_odds_43 4 rfl
theorem dX10_odds_52 : decode cX10_odds 52 = .ok (.ifCond .ne 10, 3) := kq.at kqdX10_odds_43 5 rfl
theorem dX10_odds_55 : decode cX10_odds 55 = .ok (.aload_n 0, 1) := kq.at kqdX10_odds_43 6 rfl
theorem dX10_odds_56 : decode cX10_odds 56 = .ok (.bipush 6, 2) := kq.at kqdX10_odds_43 7 rfl
theorem dX10_odds_58 : decode cX10_odds 58 = .ok (.invokevirtual 127, 3) := kq.at kqdX10_odds_43 8 rfl
theorem dX10_odds_61 : decode cX10_odds 61 = .ok (.ireturn, 1) := kq.at kqdX10_odds_43 9 rfl
theorem dX10_odds_62 : decode cX10_odds 62 = .ok (.iconst 0, 1) := kq.at kqdX10_odds_43 10 rfl
theorem dX10_odds_63 : decode cX10_odds 63 = .ok (.istore 5, 2) := kq.at kqdX10_odds_43 11 rfl
theorem dX10_odds_65 : decode cX10_odds 65 = .ok (.iconst 0, 1) := kq.at kqdX10_odds_43 12 rfl
theorem dX10_odds_66 : decode cX10_odds 66 = .ok (.istore 6, 2) := kq.at kqdX10_odds_43 13 rfl
theorem dX10_odds_68 : decode cX10_odds 68 = .ok (.iload 6, 2) := kq.at kqdX10_odds_43 14 rfl
theorem dX10_odds_70 : decode cX10_odds 70 = .ok (.iload_n 2, 1) := kq.at kqdX10_odds_43 15 rfl
theorem dX10_odds_71 : decode cX10_odds 71 = .ok (.if_icmp .ge 31, 3) := kq.at kqdX10_odds_43 16 rfl
theorem dX10_odds_74 : decode cX10_odds 74 = .ok (.aload_n 0, 1) := kq.at kqdX10_odds_43 17 rfl
theorem dX10_odds_75 : decode cX10_odds 75 = .ok (.getfield 99, 3) := kq.at kqdX10_odds_43 18 rfl
theorem dX10_odds_78 : decode cX10_odds 78 = .ok (.aload_n 0, 1) := kq.at kqdX10_odds_43 19 rfl
theorem dX10_odds_79 : decode cX10_odds 79 = .ok (.getfield 68, 3) := kq.at kqdX10_odds_43 20 rfl
theorem dX10_odds_82 : decode cX10_odds 82 = .ok (.iload_n 1, 1) := kq.at kqdX10_odds_43 21 rfl
theorem dX10_odds_83 : decode cX10_odds 83 = .ok (.iload 6, 2) := kq.at kqdX10_odds_43 22 rfl
theorem dX10_odds_85 : decode cX10_odds 85 = .ok (.iadd, 1) := kq.at kqdX10_odds_43 23 rfl
theorem kqdX10_odds_86 : kq cX10_odds [(86, .iload_n 3, 1), (87, .invokevirtual 421, 3), (90, .ifCond .eq 6, 3), (93, .iinc 5 1, 3), (96, .iinc 6 1, 3), (99, .goto (-31), 3), (102, .aload_n 0, 1), (103, .iload 5, 2), (105, .iload_n 2, 1), (106, .invokevirtual 425, 3), (109, .aload_n 0, 1), (110, .invokevirtual 134, 3), (113, .ireturn, 1)] = true := by decide +kernel
theorem dX10_odds_86 : decode cX10_odds 86 = .ok (.iload_n 3, 1) := kq.at kqdX10_odds_86 0 rfl
theorem dX10_odds_87 : decode cX10_odds 87 = .ok (.invokevirtual 421, 3) := kq.at kqdX10_odds_86 1 rfl
theorem dX10_odds_90 : decode cX10_odds 90 = .ok (.ifCond .eq 6, 3) := kq.at kqdX10_odds_86 2 rfl
theorem dX10_odds_93 : decode cX10_odds 93 = .ok (.iinc 5 1, 3) := kq.at kqdX10_odds_86 3 rfl
theorem dX10_odds_96 : decode cX10_odds 96 = .ok (.iinc 6 1, 3) := kq.at kqdX10_odds_86 4 rfl
theorem dX10_odds_99 : decode cX10_odds 99 = .ok (.goto (-31), 3) := kq.at kqdX10_odds_86 5 rfl
theorem dX10_odds_102 : decode cX10_odds 102 = .ok (.aload_n 0, 1) := kq.at kqdX10_odds_86 6 rfl
theorem dX10_odds_103 : decode cX10_odds 103 = .ok (.iload 5, 2) := kq.at kqdX10_odds_86 7 rfl
theorem dX10_odds_105 : decode cX10_odds 105 = .ok (.iload_n 2, 1) := kq.at kqdX10_odds_86 8 rfl
theorem dX10_odds_106 : decode cX10_odds 106 = .ok (.invokevirtual 425, 3) := kq.at kqdX10_odds_86 9 rfl
theorem dX10_odds_109 : decode cX10_odds 109 = .ok (.aload_n 0, 1) := kq.at kqdX10_odds_86 10 rfl
theorem dX10_odds_110 : decode cX10_odds 110 = .ok (.invokevirtual 134, 3) := kq.at kqdX10_odds_86 11 rfl
theorem dX10_odds_113 : decode cX10_odds 113 = .ok (.ireturn, 1) := kq.at kqdX10_odds_86 12 rfl
theorem kqdX10_tellFraction_0 : kq cX10_tellFraction [(0, .iconst 1, 1), (1, .istore_n 3, 1), (2, .iconst 2, 1), (3, .istore 4, 2), (5, .iload 4, 2), (7, .iload_n 2, 1), (8, .if_icmp .gt 26, 3), (11, .iload_n 1, 1), (12, .iload 4, 2), (14, .irem, 1), (15, .ifCond .ne 13, 3), (18, .iload_n 2, 1), (19, .iload 4, 2), (21, .irem, 1), (22, .ifCond .ne 6, 3), (25, .iload 4, 2), (27, .istore_n 3, 1), (28, .iinc 4 1, 3), (31, .goto (-26), 3), (34, .aload_n 0, 1), (35, .iload_n 1, 1), (36, .iload_n 3, 1), (37, .idiv, 1), (38, .i2l, 1)] = true := by decide +kernel
theorem dX10_tellFraction_0 : decode cX10_tellFraction 0 = .ok (.iconst 1, 1) := kq.at kqdX10_tellFraction_0 0 rfl
theorem dX10_tellFraction_1 : decode cX10_tellFraction 1 = .ok (.istore_n 3, 1) := kq.at kqdX10_tellFraction_0 1 rfl
theorem dX10_tellFraction_2 : decode cX10_tellFraction 2 = .ok (.iconst 2, 1) := kq.at kqdX10_tellFraction_0 2 rfl
theorem dX10_tellFraction_3 : decode cX10_tellFraction 3 = .ok (.istore 4, 2) := kq.at kqdX10_tellFraction_0 3 rfl
theorem dX10_tellFraction_5 : decode cX10_tellFraction 5 = .ok (.iload 4, 2) := kq.at kqdX10_tellFraction_0 4 rfl
theorem dX10_tellFraction_7 : decode cX10_tellFraction 7 = .ok (.iload_n 2, 1) := kq.at kqdX10_tellFraction_0 5 rfl
theorem dX10_tellFraction_8 : decode cX10_tellFraction 8 = .ok (.if_icmp .gt 26, 3) := kq.at kqdX10_tellFraction_0 6 rfl
theorem dX10_tellFraction_11 : decode cX10_tellFraction 11 = .ok (.iload_n 1, 1) := kq.at kqdX10_tellFraction_0 7 rfl
theorem dX10_tellFraction_12 : decode cX10_tellFraction 12 = .ok (.iload 4, 2) := kq.at kqdX10_tellFraction_0 8 rfl
theorem dX10_tellFraction_14 : decode cX10_tellFraction 14 = .ok (.irem, 1) := kq.at kqdX10_tellFraction_0 9 rfl
theorem dX10_tellFraction_15 : decode cX10_tellFraction 15 = .ok (.ifCond .ne 13, 3) := kq.at kqdX10_tellFraction_0 10 rfl
theorem dX10_tellFraction_18 : decode cX10_tellFraction 18 = .ok (.iload_n 2, 1) := kq.at kqdX10_tellFraction_0 11 rfl
theorem dX10_tellFraction_19 : decode cX10_tellFraction 19 = .ok (.iload 4, 2) := kq.at kqdX10_tellFraction_0 12 rfl
theorem dX10_tellFraction_21 : decode cX10_tellFraction 21 = .ok (.irem, 1) := kq.at kqdX10_tellFraction_0 13 rfl
theorem dX10_tellFraction_22 : decode cX10_tellFraction 22 = .ok (.ifCond .ne 6, 3) := kq.at kqdX10_tellFraction_0 14 rfl
theorem dX10_tellFraction_25 : decode cX10_tellFraction 25 = .ok (.iload 4, 2) := kq.at kqdX10_tellFraction_0 15 rfl
theorem dX10_tellFraction_27 : decode cX10_tellFraction 27 = .ok (.istore_n 3, 1) := kq.at kqdX10_tellFraction_0 16 rfl
theorem dX10_tellFraction_28 : decode cX10_tellFraction 28 = .ok (.iinc 4 1, 3) := kq.at kqdX10_tellFraction_0 17 rfl
theorem dX10_tellFraction_31 : decode cX10_tellFraction 31 = .ok (.goto (-26), 3) := kq.at kqdX10_tellFraction_0 18 rfl
theorem dX10_tellFraction_34 : decode cX10_tellFraction 34 = .ok (.aload_n 0, 1) := kq.at kqdX10_tellFraction_0 19 rfl
theorem dX10_tellFraction_35 : decode cX10_tellFraction 35 = .ok (.iload_n 1, 1) := kq.at kqdX10_tellFraction_0 20 rfl
theorem dX10_tellFraction_36 : decode cX10_tellFraction 36 = .ok (.iload_n 3, 1) := kq.at kqdX10_tellFraction_0 21 rfl
theorem dX10_tellFraction_37 : decode cX10_tellFraction 37 = .ok (.idiv, 1) := kq.at kqdX10_tellFraction_0 22 rfl
theorem dX10_tellFraction_38 : decode cX10_tellFraction 38 = .ok (.i2l, 1) := kq.at kqdX10_tellFraction_0 23 rfl
theorem kqdX10_tellFraction_39 : kq cX10_tellFraction [(39, .putfield 26, 3), (42, .aload_n 0, 1), (43, .iload_n 2, 1), (44, .iload_n 3, 1), (45, .idiv, 1), (46, .i2l, 1), (47, .putfield 30, 3), (50, .return_, 1)] = true := by decide +kernel
theorem dX10_tellFraction_39 : decode cX10_tellFraction 39 = .ok (.putfield 26, 3) := kq.at kqdX10_tellFraction_39 0 rfl
theorem dX10_tellFraction_42 : decode cX10_tellFraction 42 = .ok (.aload_n 0, 1) := kq.at kqdX10_tellFraction_39 1 rfl
theorem dX10_tellFraction_43 : decode cX10_tellFraction 43 = .ok (.iload_n 2, 1) := kq.at kqdX10_tellFraction_39 2 rfl
theorem dX10_tellFraction_44 : decode cX10_tellFraction 44 = .ok (.iload_n 3, 1) := kq.at kqdX10_tellFraction_39 3 rfl
theorem dX10_tellFraction_45 : decode cX10_tellFraction 45 = .ok (.idiv, 1) := kq.at kqdX10_tellFraction_39 4 rfl
theorem dX10_tellFraction_46 : decode cX10_tellFraction 46 = .ok (.i2l, 1) := kq.at kqdX10_tellFraction_39 5 rfl
theorem dX10_tellFraction_47 : decode cX10_tellFraction 47 = .ok (.putfield 30, 3) := kq.at kqdX10_tellFraction_39 6 rfl
theorem dX10_tellFraction_50 : decode cX10_tellFraction 50 = .ok (.return_, 1) := kq.at kqdX10_tellFraction_39 7 rfl
theorem kqdX10_mark_0 : kq cX10_mark [(0, .aload_n 0, 1), (1, .getfield 109, 3), (4, .iconst 3, 1), (5, .if_icmp .lt 9, 3), (8, .aload_n 0, 1), (9, .iconst 4, 1), (10, .invokevirtual 117, 3), (13, .ireturn, 1), (14, .aload_n 0, 1), (15, .getfield 105, 3), (18, .aload_n 0, 1), (19, .getfield 109, 3), (22, .aaload, 1), (23, .aload_n 0, 1), (24, .getfield 50, 3), (27, .aload_n 0, 1), (28, .getfield 57, 3), (31, .aload_n 0, 1), (32, .getfield 61, 3), (35, .aload_n 0, 1), (36, .getfield 68, 3), (39, .getfield 429, 3), (42, .invokevirtual 430, 3), (45, .aload_n 0, 1)] = true := by decide +kernel
theorem dX10_mark_0 : decode cX10_mark 0 = .ok (.aload_n 0, 1) := kq.at kqdX10_mark_0 0 rfl
theorem dX10_mark_1 : decode cX10_mark 1 = .ok (.getfield 109, 3) := kq.at kqdX10_mark_0 1 rfl
theorem dX10_mark_4 : decode cX10_mark 4 = .ok (.iconst 3, 1) := kq.at kqdX10_mark_0 2 rfl
theorem dX10_mark_5 : decode cX10_mark 5 = .ok (.if_icmp .lt 9, 3) := kq.at kqdX10_mark_0 3 rfl
theorem dX10_mark_8 : decode cX10_mark 8 = .ok (.aload_n 0, 1) := kq.at kqdX10_mark_0 4 rfl
theorem dX10_mark_9 : decode cX10_mark 9 = .ok (.iconst 4, 1) := kq.at kqdX10_mark_0 5 rfl
theorem dX10_mark_10 : decode cX10_mark 10 = .ok (.invokevirtual 117, 3) := kq.at kqdX10_mark_0 6 rfl
theorem dX10_mark_13 : decode cX10_mark 13 = .ok (.ireturn, 1) := kq.at kqdX10_mark_0 7 rfl
theorem dX10_mark_14 : decode cX10_mark 14 = .ok (.aload_n 0, 1) := kq.at kqdX10_mark_0 8 rfl
theorem dX10_mark_15 : decode cX10_mark 15 = .ok (.getfield 105, 3) := kq.at kqdX10_mark_0 9 rfl
theorem dX10_mark_18 : decode cX10_mark 18 = .ok (.aload_n 0, 1) := kq.at kqdX10_mark_0 10 rfl
theorem dX10_mark_19 : decode cX10_mark 19 = .ok (.getfield 109, 3) := kq.at kqdX10_mark_0 11 rfl
theorem dX10_mark_22 : decode cX10_mark 22 = .ok (.aaload, 1) := kq.at kqdX10_mark_0 12 rfl
theorem dX10_mark_23 : decode cX10_mark 23 = .ok (.aload_n 0, 1) := kq.at kqdX10_mark_0 13 rfl
theorem dX10_mark_24 : decode cX10_mark 24 = .ok (.getfield 50, 3) := kq.at kqdX10_mark_0 14 rfl
theorem dX10_mark_27 : decode cX10_mark 27 = .ok (.aload_n 0, 1) := kq.at kqdX10_mark_0 15 rfl
theorem dX10_mark_28 : decode cX10_mark 28 = .ok (.getfield 57, 3) := kq.at kqdX10_mark_0 16 rfl
theorem dX10_mark_31 : decode cX10_mark 31 = .ok (.aload_n 0, 1) := kq.at kqdX10_mark_0 17 rfl
theorem dX10_mark_32 : decode cX10_mark 32 = .ok (.getfield 61, 3) := kq.at kqdX10_mark_0 18 rfl
theorem dX10_mark_35 : decode cX10_mark 35 = .ok (.aload_n 0, 1) := kq.at kqdX10_mark_0 19 rfl
theorem dX10_mark_36 : decode cX10_mark 36 = .ok (.getfield 68, 3) := kq.at kqdX10_mark_0 20 rfl
theorem dX10_mark_39 : decode cX10_mark 39 = .ok (.getfield 429, 3) := kq.at kqdX10_mark_0 21 rfl
theorem dX10_mark_42 : decode cX10_mark 42 = .ok (.invokevirtual 430, 3) := kq.at kqdX10_mark_0 22 rfl
theorem dX10_mark_45 : decode cX10_mark 45 = .ok (.aload_n 0, 1) := kq.at kqdX10_mark_0 23 rfl
theorem kqdX10_mark_46 : kq cX10_mark [(46, .dup, 1), (47, .getfield 109, 3), (50, .iconst 1, 1), (51, .iadd, 1), (52, .putfield 109, 3), (55, .aload_n 0, 1), (56, .aload_n 0, 1), (57, .getfield 109, 3), (60, .invokevirtual 113, 3), (63, .ireturn, 1)] = true := by decide +kernel
theorem dX10_mark_46 : decode cX10_mark 46 = .ok (.dup, 1) := kq.at kqdX10_mark_46 0 rfl
theorem dX10_mark_47 : decode cX10_mark 47 = .ok (.getfield 109, 3) := kq.at kqdX10_mark_46 1 rfl
theorem dX10_mark_50 : decode cX10_mark 50 = .ok (.iconst 1, 1) := kq.at kqdX10_mark_46 2 rfl
theorem dX10_mark_51 : decode cX10_mark 51 = .ok (.iadd, 1) := kq.at kqdX10_mark_46 3 rfl
theorem dX10_mark_52 : decode cX10_mark 52 = .ok (.putfield 109, 3) := kq.at kqdX10_mark_46 4 rfl
theorem dX10_mark_55 : decode cX10_mark 55 = .ok (.aload_n 0, 1) := kq.at kqdX10_mark_46 5 rfl
theorem dX10_mark_56 : decode cX10_mark 56 = .ok (.aload_n 0, 1) := kq.at kqdX10_mark_46 6 rfl
theorem dX10_mark_57 : decode cX10_mark 57 = .ok (.getfield 109, 3) := kq.at kqdX10_mark_46 7 rfl
theorem dX10_mark_60 : decode cX10_mark 60 = .ok (.invokevirtual 113, 3) := kq.at kqdX10_mark_46 8 rfl
theorem dX10_mark_63 : decode cX10_mark 63 = .ok (.ireturn, 1) := kq.at kqdX10_mark_46 9 rfl
theorem kqdX10_back_0 : kq cX10_back [(0, .aload_n 0, 1), (1, .getfield 109, 3), (4, .ifCond .gt 10, 3), (7, .aload_n 0, 1), (8, .bipush 6, 2), (10, .invokevirtual 117, 3), (13, .ireturn, 1), (14, .aload_n 0, 1), (15, .dup, 1), (16, .getfield 109, 3), (19, .iconst 1, 1), (20, .isub, 1), (21, .putfield 109, 3), (24, .aload_n 0, 1), (25, .getfield 105, 3), (28, .aload_n 0, 1), (29, .getfield 109, 3), (32, .aaload, 1), (33, .astore_n 1, 1), (34, .aload_n 0, 1), (35, .getfield 50, 3), (38, .aload_n 1, 1), (39, .getfield 434, 3), (42, .invokevirtual 177, 3)] = true := by decide +kernel
theorem dX10_back_0 : decode cX10_back 0 = .ok (.aload_n 0, 1) := kq.at kqdX10_back_0 0 rfl
theorem dX10_back_1 : decode cX10_back 1 = .ok (.getfield 109, 3) := kq.at kqdX10_back_0 1 rfl
theorem dX10_back_4 : decode cX10_back 4 = .ok (.ifCond .gt 10, 3) := kq.at kqdX10_back_0 2 rfl
theorem dX10_back_7 : decode cX10_back 7 = .ok (.aload_n 0, 1) := kq.at kqdX10_back_0 3 rfl
theorem dX10_back_8 : decode cX10_back 8 = .ok (.bipush 6, 2) := kq.at kqdX10_back_0 4 rfl
theorem dX10_back_10 : decode cX10_back 10 = .ok (.invokevirtual 117, 3) := kq.at kqdX10_back_0 5 rfl
theorem dX10_back_13 : decode cX10_back 13 = .ok (.ireturn, 1) := kq.at kqdX10_back_0 6 rfl
theorem dX10_back_14 : decode cX10_back 14 = .ok (.aload_n 0, 1) := kq.at kqdX10_back_0 7 rfl
theorem dX10_back_15 : decode cX10_back 15 = .ok (.dup, 1) := kq.at kqdX10_back_0 8 rfl
theorem dX10_back_16 : decode cX10_back 16 = .ok (.getfield 109, 3) := kq.at kqdX10_back_0 9 rfl
theorem dX10_back_19 : decode cX10_back 19 = .ok (.iconst 1, 1) := kq.at kqdX10_back_0 10 rfl
theorem dX10_back_20 : decode cX10_back 20 = .ok (.isub, 1) := kq.at kqdX10_back_0 11 rfl
theorem dX10_back_21 : decode cX10_back 21 = .ok (.putfield 109, 3) := kq.at kqdX10_back_0 12 rfl
theorem dX10_back_24 : decode cX10_back 24 = .ok (.aload_n 0, 1) := kq.at kqdX10_back_0 13 rfl
theorem dX10_back_25 : decode cX10_back 25 = .ok (.getfield 105, 3) := kq.at kqdX10_back_0 14 rfl
theorem dX10_back_28 : decode cX10_back 28 = .ok (.aload_n 0, 1) := kq.at kqdX10_back_0 15 rfl
theorem dX10_back_29 : decode cX10_back 29 = .ok (.getfield 109, 3) := kq.at kqdX10_back_0 16 rfl
theorem dX10_back_32 : decode cX10_back 32 = .ok (.aaload, 1) := kq.at kqdX10_back_0 17 rfl
theorem dX10_back_33 : decode cX10_back 33 = .ok (.astore_n 1, 1) := kq.at kqdX10_back_0 18 rfl
theorem dX10_back_34 : decode cX10_back 34 = .ok (.aload_n 0, 1) := kq.at kqdX10_back_0 19 rfl
theorem dX10_back_35 : decode cX10_back 35 = .ok (.getfield 50, 3) := kq.at kqdX10_back_0 20 rfl
theorem dX10_back_38 : decode cX10_back 38 = .ok (.aload_n 1, 1) := kq.at kqdX10_back_0 21 rfl
theorem dX10_back_39 : decode cX10_back 39 = .ok (.getfield 434, 3) := kq.at kqdX10_back_0 22 rfl
theorem dX10_back_42 : decode cX10_back 42 = .ok (.invokevirtual 177, 3) := kq.at kqdX10_back_0 23 rfl
theorem kqdX10_back_45 : kq cX10_back [(45, .aload_n 0, 1), (46, .getfield 57, 3), (49, .aload_n 1, 1), (50, .getfield 435, 3), (53, .getfield 234, 3), (56, .aload_n 1, 1), (57, .getfield 435, 3), (60, .getfield 237, 3), (63, .invokevirtual 193, 3), (66, .aload_n 0, 1), (67, .iconst 0, 1), (68, .putfield 61, 3), (71, .aload_n 1, 1), (72, .getfield 436, 3), (75, .ifCond .eq 39, 3), (78, .aload_n 0, 1), (79, .getfield 72, 3), (82, .aload_n 0, 1), (83, .getfield 57, 3), (86, .getfield 234, 3), (89, .aload_n 0, 1), (90, .getfield 57, 3), (93, .getfield 237, 3), (96, .aload_n 0, 1)] = true := by decide +kernel
theorem dX10_back_45 : decode cX10_back 45 = .ok (.aload_n 0, 1) := kq.at kqdX10_back_45 0 rfl
theorem dX10_back_46 : decode cX10_back 46 = .ok (.getfield 57, 3) := kq.at kqdX10_back_45 1 rfl
theorem dX10_back_49 : decode cX10_back 49 = .ok (.aload_n 1, 1) := kq.at kqdX10_back_45 2 rfl
theorem dX10_back_50 : decode cX10_back 50 = .ok (.getfield 435, 3) := kq.at kqdX10_back_45 3 rfl
theorem dX10_back_53 : decode cX10_back 53 = .ok (.getfield 234, 3) := kq.at kqdX10_back_45 4 rfl
theorem dX10_back_56 : decode cX10_back 56 = .ok (.aload_n 1, 1) := kq.at kqdX10_back_45 5 rfl
theorem dX10_back_57 : decode cX10_back 57 = .ok (.getfield 435, 3) := kq.at kqdX10_back_45 6 rfl
theorem dX10_back_60 : decode cX10_back 60 = .ok (.getfield 237, 3) := kq.at kqdX10_back_45 7 rfl
theorem dX10_back_63 : decode cX10_back 63 = .ok (.invokevirtual 193, 3) := kq.at kqdX10_back_45 8 rfl
theorem dX10_back_66 : decode cX10_back 66 = .ok (.aload_n 0, 1) := kq.at kqdX10_back_45 9 rfl
theorem dX10_back_67 : decode cX10_back 67 = .ok (.iconst 0, 1) := kq.at kqdX10_back_45 10 rfl
theorem dX10_back_68 : decode cX10_back 68 = .ok (.putfield 61, 3) := kq.at kqdX10_back_45 11 rfl
theorem dX10_back_71 : decode cX10_back 71 = .ok (.aload_n 1, 1) := kq.at kqdX10_back_45 12 rfl
theorem dX10_back_72 : decode cX10_back 72 = .ok (.getfield 436, 3) := kq.at kqdX10_back_45 13 rfl
theorem dX10_back_75 : decode cX10_back 75 = .ok (.ifCond .eq 39, 3) := kq.at kqdX10_back_45 14 rfl
theorem dX10_back_78 : decode cX10_back 78 = .ok (.aload_n 0, 1) := kq.at kqdX10_back_45 15 rfl
theorem dX10_back_79 : decode cX10_back 79 = .ok (.getfield 72, 3) := kq.at kqdX10_back_45 16 rfl
theorem dX10_back_82 : decode cX10_back 82 = .ok (.aload_n 0, 1) := kq.at kqdX10_back_45 17 rfl
theorem dX10_back_83 : decode cX10_back 83 = .ok (.getfield 57, 3) := kq.at kqdX10_back_45 18 rfl
theorem dX10_back_86 : decode cX10_back 86 = .ok (.getfield 234, 3) := kq.at kqdX10_back_45 19 rfl
theorem dX10_back_89 : decode cX10_back 89 = .ok (.aload_n 0, 1) := kq.at kqdX10_back_45 20 rfl
theorem dX10_back_90 : decode cX10_back 90 = .ok (.getfield 57, 3) := kq.at kqdX10_back_45 21 rfl
theorem dX10_back_93 : decode cX10_back 93 = .ok (.getfield 237, 3) := kq.at kqdX10_back_45 22 rfl
theorem dX10_back_96 : decode cX10_back 96 = .ok (.aload_n 0, 1) := kq.at kqdX10_back_45 23 rfl
theorem kqdX10_back_97 : kq cX10_back [(97, .getfield 50, 3), (100, .aload_n 1, 1), (101, .getfield 437, 3), (104, .invokevirtual 187, 3), (107, .ifCond .eq 7, 3), (110, .aload_n 0, 1), (111, .invokevirtual 197, 3), (114, .aload_n 0, 1), (115, .aload_n 0, 1), (116, .getfield 109, 3), (119, .invokevirtual 113, 3), (122, .ireturn, 1)] = true := by decide +kernel
theorem dX10_back_97 : decode cX10_back 97 = .ok (.getfield 50, 3) := kq.at kqdX10_back_97 0 rfl
theorem dX10_back_100 : decode cX10_back 100 = .ok (.aload_n 1, 1) := kq.at kqdX10_back_97 1 rfl
theorem dX10_back_101 : decode cX10_back 101 = .ok (.getfield 437, 3) := kq.at kqdX10_back_97 2 rfl
theorem dX10_back_104 : decode cX10_back 104 = .ok (.invokevirtual 187, 3) := kq.at kqdX10_back_97 3 rfl
theorem dX10_back_107 : decode cX10_back 107 = .ok (.ifCond .eq 7, 3) := kq.at kqdX10_back_97 4 rfl
theorem dX10_back_110 : decode cX10_back 110 = .ok (.aload_n 0, 1) := kq.at kqdX10_back_97 5 rfl
theorem dX10_back_111 : decode cX10_back 111 = .ok (.invokevirtual 197, 3) := kq.at kqdX10_back_97 6 rfl
theorem dX10_back_114 : decode cX10_back 114 = .ok (.aload_n 0, 1) := kq.at kqdX10_back_97 7 rfl
theorem dX10_back_115 : decode cX10_back 115 = .ok (.aload_n 0, 1) := kq.at kqdX10_back_97 8 rfl
theorem dX10_back_116 : decode cX10_back 116 = .ok (.getfield 109, 3) := kq.at kqdX10_back_97 9 rfl
theorem dX10_back_119 : decode cX10_back 119 = .ok (.invokevirtual 113, 3) := kq.at kqdX10_back_97 10 rfl
theorem dX10_back_122 : decode cX10_back 122 = .ok (.ireturn, 1) := kq.at kqdX10_back_97 11 rfl
theorem kqdX10_isBlank_0 : kq cX10_isBlank [(0, .iload_n 0, 1), (1, .bipush 10, 2), (3, .if_icmp .eq 9, 3), (6, .iload_n 0, 1), (7, .bipush 32, 2), (9, .if_icmp .ne 7, 3), (12, .iconst 1, 1), (13, .goto 4, 3), (16, .iconst 0, 1), (17, .ireturn, 1)] = true := by decide +kernel
theorem dX10_isBlank_0 : decode cX10_isBlank 0 = .ok (.iload_n 0, 1) := kq.at kqdX10_isBlank_0 0 rfl
theorem dX10_isBlank_1 : decode cX10_isBlank 1 = .ok (.bipush 10, 2) := kq.at kqdX10_isBlank_0 1 rfl
theorem dX10_isBlank_3 : decode cX10_isBlank 3 = .ok (.if_icmp .eq 9, 3) := kq.at kqdX10_isBlank_0 2 rfl
theorem dX10_isBlank_6 : decode cX10_isBlank 6 = .ok (.iload_n 0, 1) := kq.at kqdX10_isBlank_0 3 rfl
theorem dX10_isBlank_7 : decode cX10_isBlank 7 = .ok (.bipush 32, 2) := kq.at kqdX10_isBlank_0 4 rfl
theorem dX10_isBlank_9 : decode cX10_isBlank 9 = .ok (.if_icmp .ne 7, 3) := kq.at kqdX10_isBlank_0 5 rfl
theorem dX10_isBlank_12 : decode cX10_isBlank 12 = .ok (.iconst 1, 1) := kq.at kqdX10_isBlank_0 6 rfl
theorem dX10_isBlank_13 : decode cX10_isBlank 13 = .ok (.goto 4, 3) := kq.at kqdX10_isBlank_0 7 rfl
theorem dX10_isBlank_16 : decode cX10_isBlank 16 = .ok (.iconst 0, 1) := kq.at kqdX10_isBlank_0 8 rfl
theorem dX10_isBlank_17 : decode cX10_isBlank 17 = .ok (.ireturn, 1) := kq.at kqdX10_isBlank_0 9 rfl
theorem kqdX10_isDigit_0 : kq cX10_isDigit [(0, .iload_n 0, 1), (1, .bipush 48, 2), (3, .if_icmp .lt 13, 3), (6, .iload_n 0, 1), (7, .bipush 57, 2), (9, .if_icmp .gt 7, 3), (12, .iconst 1, 1), (13, .goto 4, 3), (16, .iconst 0, 1), (17, .ireturn, 1)] = true := by decide +kernel
theorem dX10_isDigit_0 : decode cX10_isDigit 0 = .ok (.iload_n 0, 1) := kq.at kqdX10_isDigit_0 0 rfl
theorem dX10_isDigit_1 : decode cX10_isDigit 1 = .ok (.bipush 48, 2) := kq.at kqdX10_isDigit_0 1 rfl
theorem dX10_isDigit_3 : decode cX10_isDigit 3 = .ok (.if_icmp .lt 13, 3) := kq.at kqdX10_isDigit_0 2 rfl
theorem dX10_isDigit_6 : decode cX10_isDigit 6 = .ok (.iload_n 0, 1) := kq.at kqdX10_isDigit_0 3 rfl
theorem dX10_isDigit_7 : decode cX10_isDigit 7 = .ok (.bipush 57, 2) := kq.at kqdX10_isDigit_0 4 rfl
theorem dX10_isDigit_9 : decode cX10_isDigit 9 = .ok (.if_icmp .gt 7, 3) := kq.at kqdX10_isDigit_0 5 rfl
theorem dX10_isDigit_12 : decode cX10_isDigit 12 = .ok (.iconst 1, 1) := kq.at kqdX10_isDigit_0 6 rfl
theorem dX10_isDigit_13 : decode cX10_isDigit 13 = .ok (.goto 4, 3) := kq.at kqdX10_isDigit_0 7 rfl
theorem dX10_isDigit_16 : decode cX10_isDigit 16 = .ok (.iconst 0, 1) := kq.at kqdX10_isDigit_0 8 rfl
theorem dX10_isDigit_17 : decode cX10_isDigit 17 = .ok (.ireturn, 1) := kq.at kqdX10_isDigit_0 9 rfl
theorem kqdX10_isSmall_0 : kq cX10_isSmall [(0, .iload_n 0, 1), (1, .bipush 97, 2), (3, .if_icmp .lt 13, 3), (6, .iload_n 0, 1), (7, .bipush 122, 2), (9, .if_icmp .gt 7, 3), (12, .iconst 1, 1), (13, .goto 4, 3), (16, .iconst 0, 1), (17, .ireturn, 1)] = true := by decide +kernel
theorem dX10_isSmall_0 : decode cX10_isSmall 0 = .ok (.iload_n 0, 1) := kq.at kqdX10_isSmall_0 0 rfl
theorem dX10_isSmall_1 : decode cX10_isSmall 1 = .ok (.bipush 97, 2) := kq.at kqdX10_isSmall_0 1 rfl
theorem dX10_isSmall_3 : decode cX10_isSmall 3 = .ok (.if_icmp .lt 13, 3) := kq.at kqdX10_isSmall_0 2 rfl
theorem dX10_isSmall_6 : decode cX10_isSmall 6 = .ok (.iload_n 0, 1) := kq.at kqdX10_isSmall_0 3 rfl
theorem dX10_isSmall_7 : decode cX10_isSmall 7 = .ok (.bipush 122, 2) := kq.at kqdX10_isSmall_0 4 rfl
theorem dX10_isSmall_9 : decode cX10_isSmall 9 = .ok (.if_icmp .gt 7, 3) := kq.at kqdX10_isSmall_0 5 rfl
theorem dX10_isSmall_12 : decode cX10_isSmall 12 = .ok (.iconst 1, 1) := kq.at kqdX10_isSmall_0 6 rfl
theorem dX10_isSmall_13 : decode cX10_isSmall 13 = .ok (.goto 4, 3) := kq.at kqdX10_isSmall_0 7 rfl
theorem dX10_isSmall_16 : decode cX10_isSmall 16 = .ok (.iconst 0, 1) := kq.at kqdX10_isSmall_0 8 rfl
theorem dX10_isSmall_17 : decode cX10_isSmall 17 = .ok (.ireturn, 1) := kq.at kqdX10_isSmall_0 9 rfl
theorem kqdX10_isGreat_0 : kq cX10_isGreat [(0, .iload_n 0, 1), (1, .bipush 65, 2), (3, .if_icmp .lt 13, 3), (6, .iload_n 0, 1), (7, .bipush 90, 2), (9, .if_icmp .gt 7, 3), (12, .iconst 1, 1), (13, .goto 4, 3), (16, .iconst 0, 1), (17, .ireturn, 1)] = true := by decide +kernel
theorem dX10_isGreat_0 : decode cX10_isGreat 0 = .ok (.iload_n 0, 1) := kq.at kqdX10_isGreat_0 0 rfl
theorem dX10_isGreat_1 : decode cX10_isGreat 1 = .ok (.bipush 65, 2) := kq.at kqdX10_isGreat_0 1 rfl
theorem dX10_isGreat_3 : decode cX10_isGreat 3 = .ok (.if_icmp .lt 13, 3) := kq.at kqdX10_isGreat_0 2 rfl
theorem dX10_isGreat_6 : decode cX10_isGreat 6 = .ok (.iload_n 0, 1) := kq.at kqdX10_isGreat_0 3 rfl
theorem dX10_isGreat_7 : decode cX10_isGreat 7 = .ok (.bipush 90, 2) := kq.at kqdX10_isGreat_0 4 rfl
theorem dX10_isGreat_9 : decode cX10_isGreat 9 = .ok (.if_icmp .gt 7, 3) := kq.at kqdX10_isGreat_0 5 rfl
theorem dX10_isGreat_12 : decode cX10_isGreat 12 = .ok (.iconst 1, 1) := kq.at kqdX10_isGreat_0 6 rfl
theorem dX10_isGreat_13 : decode cX10_isGreat 13 = .ok (.goto 4, 3) := kq.at kqdX10_isGreat_0 7 rfl
theorem dX10_isGreat_16 : decode cX10_isGreat 16 = .ok (.iconst 0, 1) := kq.at kqdX10_isGreat_0 8 rfl
theorem dX10_isGreat_17 : decode cX10_isGreat 17 = .ok (.ireturn, 1) := kq.at kqdX10_isGreat_0 9 rfl
theorem kqdX10_isLetter_0 : kq cX10_isLetter [(0, .iload_n 0, 1), (1, .invokestatic 440, 3), (4, .ifCond .ne 10, 3), (7, .iload_n 0, 1), (8, .invokestatic 443, 3), (11, .ifCond .eq 7, 3), (14, .iconst 1, 1), (15, .goto 4, 3), (18, .iconst 0, 1), (19, .ireturn, 1)] = true := by decide +kernel
theorem dX10_isLetter_0 : decode cX10_isLetter 0 = .ok (.iload_n 0, 1) := kq.at kqdX10_isLetter_0 0 rfl
theorem dX10_isLetter_1 : decode cX10_isLetter 1 = .ok (.invokestatic 440, 3) := kq.at kqdX10_isLetter_0 1 rfl
theorem dX10_isLetter_4 : decode cX10_isLetter 4 = .ok (.ifCond .ne 10, 3) := kq.at kqdX10_isLetter_0 2 rfl
theorem dX10_isLetter_7 : decode cX10_isLetter 7 = .ok (.iload_n 0, 1) := kq.at kqdX10_isLetter_0 3 rfl
theorem dX10_isLetter_8 : decode cX10_isLetter 8 = .ok (.invokestatic 443, 3) := kq.at kqdX10_isLetter_0 4 rfl
theorem dX10_isLetter_11 : decode cX10_isLetter 11 = .ok (.ifCond .eq 7, 3) := kq.at kqdX10_isLetter_0 5 rfl
theorem dX10_isLetter_14 : decode cX10_isLetter 14 = .ok (.iconst 1, 1) := kq.at kqdX10_isLetter_0 6 rfl
theorem dX10_isLetter_15 : decode cX10_isLetter 15 = .ok (.goto 4, 3) := kq.at kqdX10_isLetter_0 7 rfl
theorem dX10_isLetter_18 : decode cX10_isLetter 18 = .ok (.iconst 0, 1) := kq.at kqdX10_isLetter_0 8 rfl
theorem dX10_isLetter_19 : decode cX10_isLetter 19 = .ok (.ireturn, 1) := kq.at kqdX10_isLetter_0 9 rfl
theorem kqdX10_letterOf_0 : kq cX10_letterOf [(0, .iload_n 0, 1), (1, .bipush 31, 2), (3, .iand, 1), (4, .ireturn, 1)] = true := by decide +kernel
theorem dX10_letterOf_0 : decode cX10_letterOf 0 = .ok (.iload_n 0, 1) := kq.at kqdX10_letterOf_0 0 rfl
theorem dX10_letterOf_1 : decode cX10_letterOf 1 = .ok (.bipush 31, 2) := kq.at kqdX10_letterOf_0 1 rfl
theorem dX10_letterOf_3 : decode cX10_letterOf 3 = .ok (.iand, 1) := kq.at kqdX10_letterOf_0 2 rfl
theorem dX10_letterOf_4 : decode cX10_letterOf 4 = .ok (.ireturn, 1) := kq.at kqdX10_letterOf_0 3 rfl
theorem kqdX10_letterOfDigit_0 : kq cX10_letterOfDigit [(0, .iload_n 0, 1), (1, .bipush 48, 2), (3, .if_icmp .ne 8, 3), (6, .bipush 10, 2), (8, .goto 7, 3), (11, .iload_n 0, 1), (12, .bipush 48, 2), (14, .isub, 1), (15, .ireturn, 1)] = true := by decide +kernel
theorem dX10_letterOfDigit_0 : decode cX10_letterOfDigit 0 = .ok (.iload_n 0, 1) := kq.at kqdX10_letterOfDigit_0 0 rfl
theorem dX10_letterOfDigit_1 : decode cX10_letterOfDigit 1 = .ok (.bipush 48, 2) := kq.at kqdX10_letterOfDigit_0 1 rfl
theorem dX10_letterOfDigit_3 : decode cX10_letterOfDigit 3 = .ok (.if_icmp .ne 8, 3) := kq.at kqdX10_letterOfDigit_0 2 rfl
theorem dX10_letterOfDigit_6 : decode cX10_letterOfDigit 6 = .ok (.bipush 10, 2) := kq.at kqdX10_letterOfDigit_0 3 rfl
theorem dX10_letterOfDigit_8 : decode cX10_letterOfDigit 8 = .ok (.goto 7, 3) := kq.at kqdX10_letterOfDigit_0 4 rfl
theorem dX10_letterOfDigit_11 : decode cX10_letterOfDigit 11 = .ok (.iload_n 0, 1) := kq.at kqdX10_letterOfDigit_0 5 rfl
theorem dX10_letterOfDigit_12 : decode cX10_letterOfDigit 12 = .ok (.bipush 48, 2) := kq.at kqdX10_letterOfDigit_0 6 rfl
theorem dX10_letterOfDigit_14 : decode cX10_letterOfDigit 14 = .ok (.isub, 1) := kq.at kqdX10_letterOfDigit_0 7 rfl
theorem dX10_letterOfDigit_15 : decode cX10_letterOfDigit 15 = .ok (.ireturn, 1) := kq.at kqdX10_letterOfDigit_0 8 rfl
theorem kqdX10_wordEnd_0 : kq cX10_wordEnd [(0, .iload_n 2, 1), (1, .istore_n 3, 1), (2, .iload_n 3, 1), (3, .iload_n 1, 1), (4, .if_icmp .ge 18, 3), (7, .aload_n 0, 1), (8, .iload_n 3, 1), (9, .iaload, 1), (10, .invokestatic 446, 3), (13, .ifCond .eq 9, 3), (16, .iinc 3 1, 3), (19, .goto (-17), 3), (22, .iload_n 3, 1), (23, .ireturn, 1)] = true := by decide +kernel
theorem dX10_wordEnd_0 : decode cX10_wordEnd 0 = .ok (.iload_n 2, 1) := kq.at kqdX10_wordEnd_0 0 rfl
theorem dX10_wordEnd_1 : decode cX10_wordEnd 1 = .ok (.istore_n 3, 1) := kq.at kqdX10_wordEnd_0 1 rfl
theorem dX10_wordEnd_2 : decode cX10_wordEnd 2 = .ok (.iload_n 3, 1) := kq.at kqdX10_wordEnd_0 2 rfl
theorem dX10_wordEnd_3 : decode cX10_wordEnd 3 = .ok (.iload_n 1, 1) := kq.at kqdX10_wordEnd_0 3 rfl
theorem dX10_wordEnd_4 : decode cX10_wordEnd 4 = .ok (.if_icmp .ge 18, 3) := kq.at kqdX10_wordEnd_0 4 rfl
theorem dX10_wordEnd_7 : decode cX10_wordEnd 7 = .ok (.aload_n 0, 1) := kq.at kqdX10_wordEnd_0 5 rfl
theorem dX10_wordEnd_8 : decode cX10_wordEnd 8 = .ok (.iload_n 3, 1) := kq.at kqdX10_wordEnd_0 6 rfl
theorem dX10_wordEnd_9 : decode cX10_wordEnd 9 = .ok (.iaload, 1) := kq.at kqdX10_wordEnd_0 7 rfl
theorem dX10_wordEnd_10 : decode cX10_wordEnd 10 = .ok (.invokestatic 446, 3) := kq.at kqdX10_wordEnd_0 8 rfl
theorem dX10_wordEnd_13 : decode cX10_wordEnd 13 = .ok (.ifCond .eq 9, 3) := kq.at kqdX10_wordEnd_0 9 rfl
theorem dX10_wordEnd_16 : decode cX10_wordEnd 16 = .ok (.iinc 3 1, 3) := kq.at kqdX10_wordEnd_0 10 rfl
theorem dX10_wordEnd_19 : decode cX10_wordEnd 19 = .ok (.goto (-17), 3) := kq.at kqdX10_wordEnd_0 11 rfl
theorem dX10_wordEnd_22 : decode cX10_wordEnd 22 = .ok (.iload_n 3, 1) := kq.at kqdX10_wordEnd_0 12 rfl
theorem dX10_wordEnd_23 : decode cX10_wordEnd 23 = .ok (.ireturn, 1) := kq.at kqdX10_wordEnd_0 13 rfl
theorem kqdX11_init_0 : kq cX11_init [(0, .aload_n 0, 1), (1, .invokespecial 1, 3), (4, .aload_n 0, 1), (5, .sipush 19800, 3), (8, .newarray .int, 2), (10, .putfield 7, 3), (13, .aload_n 0, 1), (14, .lconst 1, 1), (15, .putfield 13, 3), (18, .aload_n 0, 1), (19, .iconst 4, 1), (20, .newarray .int, 2), (22, .putfield 17, 3), (25, .aload_n 0, 1), (26, .iconst 4, 1), (27, .newarray .int, 2), (29, .dup, 1), (30, .iconst 0, 1), (31, .iconst (-1), 1), (32, .iastore, 1), (33, .dup, 1), (34, .iconst 1, 1), (35, .iconst (-1), 1), (36, .iastore, 1)] = true := by decide +kernel
theorem dX11_init_0 : decode cX11_init 0 = .ok (.aload_n 0, 1) := kq.at kqdX11_init_0 0 rfl
theorem dX11_init_1 : decode cX11_init 1 = .ok (.invokespecial 1, 3) := kq.at kqdX11_init_0 1 rfl
theorem dX11_init_4 : decode cX11_init 4 = .ok (.aload_n 0, 1) := kq.at kqdX11_init_0 2 rfl
theorem dX11_init_5 : decode cX11_init 5 = .ok (.sipush 19800, 3) := kq.at kqdX11_init_0 3 rfl
theorem dX11_init_8 : decode cX11_init 8 = .ok (.newarray .int, 2) := kq.at kqdX11_init_0 4 rfl
theorem dX11_init_10 : decode cX11_init 10 = .ok (.putfield 7, 3) := kq.at kqdX11_init_0 5 rfl
theorem dX11_init_13 : decode cX11_init 13 = .ok (.aload_n 0, 1) := kq.at kqdX11_init_0 6 rfl
theorem dX11_init_14 : decode cX11_init 14 = .ok (.lconst 1, 1) := kq.at kqdX11_init_0 7 rfl
theorem dX11_init_15 : decode cX11_init 15 = .ok (.putfield 13, 3) := kq.at kqdX11_init_0 8 rfl
theorem dX11_init_18 : decode cX11_init 18 = .ok (.aload_n 0, 1) := kq.at kqdX11_init_0 9 rfl
theorem dX11_init_19 : decode cX11_init 19 = .ok (.iconst 4, 1) := kq.at kqdX11_init_0 10 rfl
theorem dX11_init_20 : decode cX11_init 20 = .ok (.newarray .int, 2) := kq.at kqdX11_init_0 11 rfl
theorem dX11_init_22 : decode cX11_init 22 = .ok (.putfield 17, 3) := kq.at kqdX11_init_0 12 rfl
theorem dX11_init_25 : decode cX11_init 25 = .ok (.aload_n 0, 1) := kq.at kqdX11_init_0 13 rfl
theorem dX11_init_26 : decode cX11_init 26 = .ok (.iconst 4, 1) := kq.at kqdX11_init_0 14 rfl
theorem dX11_init_27 : decode cX11_init 27 = .ok (.newarray .int, 2) := kq.at kqdX11_init_0 15 rfl
theorem dX11_init_29 : decode cX11_init 29 = .ok (.dup, 1) := kq.at kqdX11_init_0 16 rfl
theorem dX11_init_30 : decode cX11_init 30 = .ok (.iconst 0, 1) := kq.at kqdX11_init_0 17 rfl
theorem dX11_init_31 : decode cX11_init 31 = .ok (.iconst (-1), 1) := kq.at kqdX11_init_0 18 rfl
theorem dX11_init_32 : decode cX11_init 32 = .ok (.iastore, 1) := kq.at kqdX11_init_0 19 rfl
theorem dX11_init_33 : decode cX11_init 33 = .ok (.dup, 1) := kq.at kqdX11_init_0 20 rfl
theorem dX11_init_34 : decode cX11_init 34 = .ok (.iconst 1, 1) := kq.at kqdX11_init_0 21 rfl
theorem dX11_init_35 : decode cX11_init 35 = .ok (.iconst (-1), 1) := kq.at kqdX11_init_0 22 rfl
theorem dX11_init_36 : decode cX11_init 36 = .ok (.iastore, 1) := kq.at kqdX11_init_0 23 rfl
theorem kqdX11_init_37 : kq cX11_init [(37, .dup, 1), (38, .iconst 2, 1), (39, .iconst (-1), 1), (40, .iastore, 1), (41, .dup, 1), (42, .iconst 3, 1), (43, .iconst (-1), 1), (44, .iastore, 1), (45, .putfield 20, 3), (48, .aload_n 0, 1), (49, .sipush 240, 3), (52, .newarray .long, 2), (54, .putfield 23, 3), (57, .aload_n 0, 1), (58, .sipush 900, 3), (61, .newarray .byte, 2), (63, .putfield 27, 3), (66, .aload_n 0, 1), (67, .sipush 900, 3), (70, .newarray .byte, 2), (72, .putfield 31, 3), (75, .aload_n 0, 1), (76, .iconst (-1), 1), (77, .putfield 34, 3)] = true := by decide +kernel
theorem dX11_init_37 : decode cX11_init 37 = .ok (.dup, 1) := kq.at kqdX11_init_37 0 rfl
theorem dX11_init_38 : decode cX11_init 38 = .ok (.iconst 2, 1) := kq.at kqdX11_init_37 1 rfl
theorem dX11_init_39 : decode cX11_init 39 = .ok (.iconst (-1), 1) := kq.at kqdX11_init_37 2 rfl
theorem dX11_init_40 : decode cX11_init 40 = .ok (.iastore, 1) := kq.at kqdX11_init_37 3 rfl
theorem dX11_init_41 : decode cX11_init 41 = .ok (.dup, 1) := kq.at kqdX11_init_37 4 rfl
theorem dX11_init_42 : decode cX11_init 42 = .ok (.iconst 3, 1) := kq.at kqdX11_init_37 5 rfl
theorem dX11_init_43 : decode cX11_init 43 = .ok (.iconst (-1), 1) := kq.at kqdX11_init_37 6 rfl
theorem dX11_init_44 : decode cX11_init 44 = .ok (.iastore, 1) := kq.at kqdX11_init_37 7 rfl
theorem dX11_init_45 : decode cX11_init 45 = .ok (.putfield 20, 3) := kq.at kqdX11_init_37 8 rfl
theorem dX11_init_48 : decode cX11_init 48 = .ok (.aload_n 0, 1) := kq.at kqdX11_init_37 9 rfl
theorem dX11_init_49 : decode cX11_init 49 = .ok (.sipush 240, 3) := kq.at kqdX11_init_37 10 rfl
theorem dX11_init_52 : decode cX11_init 52 = .ok (.newarray .long, 2) := kq.at kqdX11_init_37 11 rfl
theorem dX11_init_54 : decode cX11_init 54 = .ok (.putfield 23, 3) := kq.at kqdX11_init_37 12 rfl
theorem dX11_init_57 : decode cX11_init 57 = .ok (.aload_n 0, 1) := kq.at kqdX11_init_37 13 rfl
theorem dX11_init_58 : decode cX11_init 58 = .ok (.sipush 900, 3) := kq.at kqdX11_init_37 14 rfl
theorem dX11_init_61 : decode cX11_init 61 = .ok (.newarray .byte, 2) := kq.at kqdX11_init_37 15 rfl
theorem dX11_init_63 : decode cX11_init 63 = .ok (.putfield 27, 3) := kq.at kqdX11_init_37 16 rfl
theorem dX11_init_66 : decode cX11_init 66 = .ok (.aload_n 0, 1) := kq.at kqdX11_init_37 17 rfl
theorem dX11_init_67 : decode cX11_init 67 = .ok (.sipush 900, 3) := kq.at kqdX11_init_37 18 rfl
theorem dX11_init_70 : decode cX11_init 70 = .ok (.newarray .byte, 2) := kq.at kqdX11_init_37 19 rfl
theorem dX11_init_72 : decode cX11_init 72 = .ok (.putfield 31, 3) := kq.at kqdX11_init_37 20 rfl
theorem dX11_init_75 : decode cX11_init 75 = .ok (.aload_n 0, 1) := kq.at kqdX11_init_37 21 rfl
theorem dX11_init_76 : decode cX11_init 76 = .ok (.iconst (-1), 1) := kq.at kqdX11_init_37 22 rfl
theorem dX11_init_77 : decode cX11_init 77 = .ok (.putfield 34, 3) := kq.at kqdX11_init_37 23 rfl
theorem kqdX11_init_80 : kq cX11_init [(80, .aload_n 0, 1), (81, .iconst (-1), 1), (82, .putfield 38, 3), (85, .aload_n 0, 1), (86, .sipush 2600, 3), (89, .newarray .int, 2), (91, .putfield 41, 3), (94, .aload_n 0, 1), (95, .sipush 1300, 3), (98, .newarray .int, 2), (100, .putfield 44, 3), (103, .aload_n 0, 1), (104, .sipush 1300, 3), (107, .newarray .int, 2), (109, .putfield 47, 3), (112, .aload_n 0, 1), (113, .sipush 160, 3), (116, .newarray .int, 2), (118, .putfield 50, 3), (121, .aload_n 0, 1), (122, .sipush 160, 3), (125, .newarray .int, 2), (127, .putfield 53, 3), (130, .aload_n 0, 1)] = true := by decide +kernel
theorem dX11_init_80 : decode cX11_init 80 = .ok (.aload_n 0, 1) := kq.at kqdX11_init_80 0 rfl
theorem dX11_init_81 : decode cX11_init 81 = .ok (.iconst (-1), 1) := kq.at kqdX11_init_80 1 rfl
theorem dX11_init_82 : decode cX11_init 82 = .ok (.putfield 38, 3) := kq.at kqdX11_init_80 2 rfl
theorem dX11_init_85 : decode cX11_init 85 = .ok (.aload_n 0, 1) := kq.at kqdX11_init_80 3 rfl
theorem dX11_init_86 : decode cX11_init 86 = .ok (.sipush 2600, 3) := kq.at kqdX11_init_80 4 rfl
theorem dX11_init_89 : decode cX11_init 89 = .ok (.newarray .int, 2) := kq.at kqdX11_init_80 5 rfl
theorem dX11_init_91 : decode cX11_init 91 = .ok (.putfield 41, 3) := kq.at kqdX11_init_80 6 rfl
theorem dX11_init_94 : decode cX11_init 94 = .ok (.aload_n 0, 1) := kq.at kqdX11_init_80 7 rfl
theorem dX11_init_95 : decode cX11_init 95 = .ok (.sipush 1300, 3) := kq.at kqdX11_init_80 8 rfl
theorem dX11_init_98 : decode cX11_init 98 = .ok (.newarray .int, 2) := kq.at kqdX11_init_80 9 rfl
theorem dX11_init_100 : decode cX11_init 100 = .ok (.putfield 44, 3) := kq.at kqdX11_init_80 10 rfl
theorem dX11_init_103 : decode cX11_init 103 = .ok (.aload_n 0, 1) := kq.at kqdX11_init_80 11 rfl
theorem dX11_init_104 : decode cX11_init 104 = .ok (.sipush 1300, 3) := kq.at kqdX11_init_80 12 rfl
theorem dX11_init_107 : decode cX11_init 107 = .ok (.newarray .int, 2) := kq.at kqdX11_init_80 13 rfl
theorem dX11_init_109 : decode cX11_init 109 = .ok (.putfield 47, 3) := kq.at kqdX11_init_80 14 rfl
theorem dX11_init_112 : decode cX11_init 112 = .ok (.aload_n 0, 1) := kq.at kqdX11_init_80 15 rfl
theorem dX11_init_113 : decode cX11_init 113 = .ok (.sipush 160, 3) := kq.at kqdX11_init_80 16 rfl
theorem dX11_init_116 : decode cX11_init 116 = .ok (.newarray .int, 2) := kq.at kqdX11_init_80 17 rfl
theorem dX11_init_118 : decode cX11_init 118 = .ok (.putfield 50, 3) := kq.at kqdX11_init_80 18 rfl
theorem dX11_init_121 : decode cX11_init 121 = .ok (.aload_n 0, 1) := kq.at kqdX11_init_80 19 rfl
theorem dX11_init_122 : decode cX11_init 122 = .ok (.sipush 160, 3) := kq.at kqdX11_init_80 20 rfl
theorem dX11_init_125 : decode cX11_init 125 = .ok (.newarray .int, 2) := kq.at kqdX11_init_80 21 rfl
theorem dX11_init_127 : decode cX11_init 127 = .ok (.putfield 53, 3) := kq.at kqdX11_init_80 22 rfl
theorem dX11_init_130 : decode cX11_init 130 = .ok (.aload_n 0, 1) := kq.at kqdX11_init_80 23 rfl
theorem kqdX11_init_131 : kq cX11_init [(131, .sipush 160, 3), (134, .newarray .int, 2), (136, .putfield 56, 3), (139, .aload_n 0, 1), (140, .sipush 301, 3), (143, .newarray .int, 2), (145, .putfield 59, 3), (148, .aload_n 0, 1), (149, .bipush 20, 2), (151, .newarray .int, 2), (153, .putfield 62, 3), (156, .aload_n 0, 1), (157, .bipush 20, 2), (159, .newarray .int, 2), (161, .putfield 65, 3), (164, .aload_n 0, 1), (165, .bipush 21, 2), (167, .newarray .int, 2), (169, .putfield 68, 3), (172, .aload_n 0, 1), (173, .bipush 20, 2), (175, .newarray .int, 2), (177, .putfield 71, 3), (180, .aload_n 0, 1)] = true := by decide +kernel
theorem dX11_init_131 : decode cX11_init 131 = .ok (.sipush 160, 3) := kq.at kqdX11_init_131 0 rfl
theorem dX11_init_134 : decode cX11_init 134 = .ok (.newarray .int, 2) := kq.at kqdX11_init_131 1 rfl
theorem dX11_init_136 : decode cX11_init 136 = .ok (.putfield 56, 3) := kq.at kqdX11_init_131 2 rfl
theorem dX11_init_139 : decode cX11_init 139 = .ok (.aload_n 0, 1) := kq.at kqdX11_init_131 3 rfl
theorem dX11_init_140 : decode cX11_init 140 = .ok (.sipush 301, 3) := kq.at kqdX11_init_131 4 rfl
theorem dX11_init_143 : decode cX11_init 143 = .ok (.newarray .int, 2) := kq.at kqdX11_init_131 5 rfl
theorem dX11_init_145 : decode cX11_init 145 = .ok (.putfield 59, 3) := kq.at kqdX11_init_131 6 rfl
theorem dX11_init_148 : decode cX11_init 148 = .ok (.aload_n 0, 1) := kq.at kqdX11_init_131 7 rfl
theorem dX11_init_149 : decode cX11_init 149 = .ok (.bipush 20, 2) := kq.at kqdX11_init_131 8 rfl
theorem dX11_init_151 : decode cX11_init 151 = .ok (.newarray .int, 2) := kq.at kqdX11_init_131 9 rfl
theorem dX11_init_153 : decode cX11_init 153 = .ok (.putfield 62, 3) := kq.at kqdX11_init_131 10 rfl
theorem dX11_init_156 : decode cX11_init 156 = .ok (.aload_n 0, 1) := kq.at kqdX11_init_131 11 rfl
theorem dX11_init_157 : decode cX11_init 157 = .ok (.bipush 20, 2) := kq.at kqdX11_init_131 12 rfl
theorem dX11_init_159 : decode cX11_init 159 = .ok (.newarray .int, 2) := kq.at kqdX11_init_131 13 rfl
theorem dX11_init_161 : decode cX11_init 161 = .ok (.putfield 65, 3) := kq.at kqdX11_init_131 14 rfl
theorem dX11_init_164 : decode cX11_init 164 = .ok (.aload_n 0, 1) := kq.at kqdX11_init_131 15 rfl
theorem dX11_init_165 : decode cX11_init 165 = .ok (.bipush 21, 2) := kq.at kqdX11_init_131 16 rfl
theorem dX11_init_167 : decode cX11_init 167 = .ok (.newarray .int, 2) := kq.at kqdX11_init_131 17 rfl
theorem dX11_init_169 : decode cX11_init 169 = .ok (.putfield 68, 3) := kq.at kqdX11_init_131 18 rfl
theorem dX11_init_172 : decode cX11_init 172 = .ok (.aload_n 0, 1) := kq.at kqdX11_init_131 19 rfl
theorem dX11_init_173 : decode cX11_init 173 = .ok (.bipush 20, 2) := kq.at kqdX11_init_131 20 rfl
theorem dX11_init_175 : decode cX11_init 175 = .ok (.newarray .int, 2) := kq.at kqdX11_init_131 21 rfl
theorem dX11_init_177 : decode cX11_init 177 = .ok (.putfield 71, 3) := kq.at kqdX11_init_131 22 rfl
theorem dX11_init_180 : decode cX11_init 180 = .ok (.aload_n 0, 1) := kq.at kqdX11_init_131 23 rfl
theorem kqdX11_init_181 : kq cX11_init [(181, .iconst (-1), 1), (182, .putfield 74, 3), (185, .aload_n 0, 1), (186, .bipush 21, 2), (188, .newarray .int, 2), (190, .putfield 77, 3), (193, .aload_n 0, 1), (194, .bipush 22, 2), (196, .newarray .int, 2), (198, .putfield 80, 3), (201, .aload_n 0, 1), (202, .sipush 4161, 3), (205, .newarray .int, 2), (207, .putfield 83, 3), (210, .aload_n 0, 1), (211, .iconst (-1), 1), (212, .putfield 86, 3), (215, .aload_n 0, 1), (216, .sipush 1250, 3), (219, .newarray .int, 2), (221, .putfield 89, 3), (224, .aload_n 0, 1), (225, .sipush 1250, 3), (228, .newarray .int, 2)] = true := by decide +kernel
theorem dX11_init_181 : decode cX11_init 181 = .ok (.iconst (-1), 1) := kq.at kqdX11_init_181 0 rfl
theorem dX11_init_182 : decode cX11_init 182 = .ok (.putfield 74, 3) := kq.at kqdX11_init_181 1 rfl
theorem dX11_init_185 : decode cX11_init 185 = .ok (.aload_n 0, 1) := kq.at kqdX11_init_181 2 rfl
theorem dX11_init_186 : decode cX11_init 186 = .ok (.bipush 21, 2) := kq.at kqdX11_init_181 3 rfl
theorem dX11_init_188 : decode cX11_init 188 = .ok (.newarray .int, 2) := kq.at kqdX11_init_181 4 rfl
theorem dX11_init_190 : decode cX11_init 190 = .ok (.putfield 77, 3) := kq.at kqdX11_init_181 5 rfl
theorem dX11_init_193 : decode cX11_init 193 = .ok (.aload_n 0, 1) := kq.at kqdX11_init_181 6 rfl
theorem dX11_init_194 : decode cX11_init 194 = .ok (.bipush 22, 2) := kq.at kqdX11_init_181 7 rfl
theorem dX11_init_196 : decode cX11_init 196 = .ok (.newarray .int, 2) := kq.at kqdX11_init_181 8 rfl
theorem dX11_init_198 : decode cX11_init 198 = .ok (.putfield 80, 3) := kq.at kqdX11_init_181 9 rfl
theorem dX11_init_201 : decode cX11_init 201 = .ok (.aload_n 0, 1) := kq.at kqdX11_init_181 10 rfl
theorem dX11_init_202 : decode cX11_init 202 = .ok (.sipush 4161, 3) := kq.at kqdX11_init_181 11 rfl
theorem dX11_init_205 : decode cX11_init 205 = .ok (.newarray .int, 2) := kq.at kqdX11_init_181 12 rfl
theorem dX11_init_207 : decode cX11_init 207 = .ok (.putfield 83, 3) := kq.at kqdX11_init_181 13 rfl
theorem dX11_init_210 : decode cX11_init 210 = .ok (.aload_n 0, 1) := kq.at kqdX11_init_181 14 rfl
theorem dX11_init_211 : decode cX11_init 211 = .ok (.iconst (-1), 1) := kq.at kqdX11_init_181 15 rfl
theorem dX11_init_212 : decode cX11_init 212 = .ok (.putfield 86, 3) := kq.at kqdX11_init_181 16 rfl
theorem dX11_init_215 : decode cX11_init 215 = .ok (.aload_n 0, 1) := kq.at kqdX11_init_181 17 rfl
theorem dX11_init_216 : decode cX11_init 216 = .ok (.sipush 1250, 3) := kq.at kqdX11_init_181 18 rfl
theorem dX11_init_219 : decode cX11_init 219 = .ok (.newarray .int, 2) := kq.at kqdX11_init_181 19 rfl
theorem dX11_init_221 : decode cX11_init 221 = .ok (.putfield 89, 3) := kq.at kqdX11_init_181 20 rfl
theorem dX11_init_224 : decode cX11_init 224 = .ok (.aload_n 0, 1) := kq.at kqdX11_init_181 21 rfl
theorem dX11_init_225 : decode cX11_init 225 = .ok (.sipush 1250, 3) := kq.at kqdX11_init_181 22 rfl
theorem dX11_init_228 : decode cX11_init 228 = .ok (.newarray .int, 2) := kq.at kqdX11_init_181 23 rfl
theorem kqdX11_init_230 : kq cX11_init [(230, .putfield 92, 3), (233, .aload_n 0, 1), (234, .iconst 0, 1), (235, .invokevirtual 95, 3), (238, .return_, 1)] = true := by decide +kernel
theorem dX11_init_230 : decode cX11_init 230 = .ok (.putfield 92, 3) := kq.at kqdX11_init_230 0 rfl
theorem dX11_init_233 : decode cX11_init 233 = .ok (.aload_n 0, 1) := kq.at kqdX11_init_230 1 rfl
theorem dX11_init_234 : decode cX11_init 234 = .ok (.iconst 0, 1) := kq.at kqdX11_init_230 2 rfl
theorem dX11_init_235 : decode cX11_init 235 = .ok (.invokevirtual 95, 3) := kq.at kqdX11_init_230 3 rfl
theorem dX11_init_238 : decode cX11_init 238 = .ok (.return_, 1) := kq.at kqdX11_init_230 4 rfl
theorem kqdX11_empties_0 : kq cX11_empties [(0, .iconst 0, 1), (1, .istore_n 2, 1), (2, .iload_n 2, 1), (3, .sipush 3300, 3), (6, .if_icmp .ge 18, 3), (9, .aload_n 0, 1), (10, .getfield 7, 3), (13, .iload_n 1, 1), (14, .iload_n 2, 1), (15, .iadd, 1), (16, .iconst 0, 1), (17, .iastore, 1), (18, .iinc 2 1, 3), (21, .goto (-19), 3), (24, .aload_n 0, 1), (25, .getfield 7, 3), (28, .iload_n 1, 1), (29, .iconst 4, 1), (30, .iadd, 1), (31, .bipush 32, 2), (33, .iastore, 1), (34, .aload_n 0, 1), (35, .getfield 7, 3), (38, .iload_n 1, 1)] = true := by decide +kernel
theorem dX11_empties_0 : decode cX11_empties 0 = .ok (.iconst 0, 1) := kq.at kqdX11_empties_0 0 rfl
theorem dX11_empties_1 : decode cX11_empties 1 = .ok (.istore_n 2, 1) := kq.at kqdX11_empties_0 1 rfl
theorem dX11_empties_2 : decode cX11_empties 2 = .ok (.iload_n 2, 1) := kq.at kqdX11_empties_0 2 rfl
theorem dX11_empties_3 : decode cX11_empties 3 = .ok (.sipush 3300, 3) := kq.at kqdX11_empties_0 3 rfl
theorem dX11_empties_6 : decode cX11_empties 6 = .ok (.if_icmp .ge 18, 3) := kq.at kqdX11_empties_0 4 rfl
theorem dX11_empties_9 : decode cX11_empties 9 = .ok (.aload_n 0, 1) := kq.at kqdX11_empties_0 5 rfl
theorem dX11_empties_10 : decode cX11_empties 10 = .ok (.getfield 7, 3) := kq.at kqdX11_empties_0 6 rfl
theorem dX11_empties_13 : decode cX11_empties 13 = .ok (.iload_n 1, 1) := kq.at kqdX11_empties_0 7 rfl
theorem dX11_empties_14 : decode cX11_empties 14 = .ok (.iload_n 2, 1) := kq.at kqdX11_empties_0 8 rfl
theorem dX11_empties_15 : decode cX11_empties 15 = .ok (.iadd, 1) := kq.at kqdX11_empties_0 9 rfl
theorem dX11_empties_16 : decode cX11_empties 16 = .ok (.iconst 0, 1) := kq.at kqdX11_empties_0 10 rfl
theorem dX11_empties_17 : decode cX11_empties 17 = .ok (.iastore, 1) := kq.at kqdX11_empties_0 11 rfl
theorem dX11_empties_18 : decode cX11_empties 18 = .ok (.iinc 2 1, 3) := kq.at kqdX11_empties_0 12 rfl
theorem dX11_empties_21 : decode cX11_empties 21 = .ok (.goto (-19), 3) := kq.at kqdX11_empties_0 13 rfl
theorem dX11_empties_24 : decode cX11_empties 24 = .ok (.aload_n 0, 1) := kq.at kqdX11_empties_0 14 rfl
theorem dX11_empties_25 : decode cX11_empties 25 = .ok (.getfield 7, 3) := kq.at kqdX11_empties_0 15 rfl
theorem dX11_empties_28 : decode cX11_empties 28 = .ok (.iload_n 1, 1) := kq.at kqdX11_empties_0 16 rfl
theorem dX11_empties_29 : decode cX11_empties 29 = .ok (.iconst 4, 1) := kq.at kqdX11_empties_0 17 rfl
theorem dX11_empties_30 : decode cX11_empties 30 = .ok (.iadd, 1) := kq.at kqdX11_empties_0 18 rfl
theorem dX11_empties_31 : decode cX11_empties 31 = .ok (.bipush 32, 2) := kq.at kqdX11_empties_0 19 rfl
theorem dX11_empties_33 : decode cX11_empties 33 = .ok (.iastore, 1) := kq.at kqdX11_empties_0 20 rfl
theorem dX11_empties_34 : decode cX11_empties 34 = .ok (.aload_n 0, 1) := kq.at kqdX11_empties_0 21 rfl
theorem dX11_empties_35 : decode cX11_empties 35 = .ok (.getfield 7, 3) := kq.at kqdX11_empties_0 22 rfl
theorem dX11_empties_38 : decode cX11_empties 38 = .ok (.iload_n 1, 1) := kq.at kqdX11_empties_0 23 rfl
theorem kqdX11_empties_39 : kq cX11_empties [(39, .iconst 5, 1), (40, .iadd, 1), (41, .bipush 25, 2), (43, .iastore, 1), (44, .aload_n 0, 1), (45, .getfield 7, 3), (48, .iload_n 1, 1), (49, .bipush 7, 2), (51, .iadd, 1), (52, .iconst (-1), 1), (53, .iastore, 1), (54, .return_, 1)] = true := by decide +kernel
theorem dX11_empties_39 : decode cX11_empties 39 = .ok (.iconst 5, 1) := kq.at kqdX11_empties_39 0 rfl
theorem dX11_empties_40 : decode cX11_empties 40 = .ok (.iadd, 1) := kq.at kqdX11_empties_39 1 rfl
theorem dX11_empties_41 : decode cX11_empties 41 = .ok (.bipush 25, 2) := kq.at kqdX11_empties_39 2 rfl
theorem dX11_empties_43 : decode cX11_empties 43 = .ok (.iastore, 1) := kq.at kqdX11_empties_39 3 rfl
theorem dX11_empties_44 : decode cX11_empties 44 = .ok (.aload_n 0, 1) := kq.at kqdX11_empties_39 4 rfl
theorem dX11_empties_45 : decode cX11_empties 45 = .ok (.getfield 7, 3) := kq.at kqdX11_empties_39 5 rfl
theorem dX11_empties_48 : decode cX11_empties 48 = .ok (.iload_n 1, 1) := kq.at kqdX11_empties_39 6 rfl
theorem dX11_empties_49 : decode cX11_empties 49 = .ok (.bipush 7, 2) := kq.at kqdX11_empties_39 7 rfl
theorem dX11_empties_51 : decode cX11_empties 51 = .ok (.iadd, 1) := kq.at kqdX11_empties_39 8 rfl
theorem dX11_empties_52 : decode cX11_empties 52 = .ok (.iconst (-1), 1) := kq.at kqdX11_empties_39 9 rfl
theorem dX11_empties_53 : decode cX11_empties 53 = .ok (.iastore, 1) := kq.at kqdX11_empties_39 10 rfl
theorem dX11_empties_54 : decode cX11_empties 54 = .ok (.return_, 1) := kq.at kqdX11_empties_39 11 rfl
theorem kqdX11_status_0 : kq cX11_status [(0, .aload_n 0, 1), (1, .getfield 99, 3), (4, .ireturn, 1)] = true := by decide +kernel
theorem dX11_status_0 : decode cX11_status 0 = .ok (.aload_n 0, 1) := kq.at kqdX11_status_0 0 rfl
theorem dX11_status_1 : decode cX11_status 1 = .ok (.getfield 99, 3) := kq.at kqdX11_status_0 1 rfl
theorem dX11_status_4 : decode cX11_status 4 = .ok (.ireturn, 1) := kq.at kqdX11_status_0 2 rfl
theorem kqdX11_top_0 : kq cX11_top [(0, .aload_n 0, 1), (1, .getfield 102, 3), (4, .lreturn, 1)] = true := by decide +kernel
theorem dX11_top_0 : decode cX11_top 0 = .ok (.aload_n 0, 1) := kq.at kqdX11_top_0 0 rfl
theorem dX11_top_1 : decode cX11_top 1 = .ok (.getfield 102, 3) := kq.at kqdX11_top_0 1 rfl
theorem dX11_top_4 : decode cX11_top 4 = .ok (.lreturn, 1) := kq.at kqdX11_top_0 2 rfl
theorem kqdX11_bottom_0 : kq cX11_bottom [(0, .aload_n 0, 1), (1, .getfield 13, 3), (4, .lreturn, 1)] = true := by decide +kernel
theorem dX11_bottom_0 : decode cX11_bottom 0 = .ok (.aload_n 0, 1) := kq.at kqdX11_bottom_0 0 rfl
theorem dX11_bottom_1 : decode cX11_bottom 1 = .ok (.getfield 13, 3) := kq.at kqdX11_bottom_0 1 rfl
theorem dX11_bottom_4 : decode cX11_bottom 4 = .ok (.lreturn, 1) := kq.at kqdX11_bottom_0 2 rfl
theorem kqdX11_is_0 : kq cX11_is [(0, .aload_n 0, 1), (1, .iload_n 1, 1), (2, .putfield 99, 3), (5, .iload_n 1, 1), (6, .ifCond .ne 7, 3), (9, .iconst 1, 1), (10, .goto 4, 3), (13, .iconst 0, 1), (14, .ireturn, 1)] = true := by decide +kernel
theorem dX11_is_0 : decode cX11_is 0 = .ok (.aload_n 0, 1) := kq.at kqdX11_is_0 0 rfl
theorem dX11_is_1 : decode cX11_is 1 = .ok (.iload_n 1, 1) := kq.at kqdX11_is_0 1 rfl
theorem dX11_is_2 : decode cX11_is 2 = .ok (.putfield 99, 3) := kq.at kqdX11_is_0 2 rfl
theorem dX11_is_5 : decode cX11_is 5 = .ok (.iload_n 1, 1) := kq.at kqdX11_is_0 3 rfl
theorem dX11_is_6 : decode cX11_is 6 = .ok (.ifCond .ne 7, 3) := kq.at kqdX11_is_0 4 rfl
theorem dX11_is_9 : decode cX11_is 9 = .ok (.iconst 1, 1) := kq.at kqdX11_is_0 5 rfl
theorem dX11_is_10 : decode cX11_is 10 = .ok (.goto 4, 3) := kq.at kqdX11_is_0 6 rfl
theorem dX11_is_13 : decode cX11_is 13 = .ok (.iconst 0, 1) := kq.at kqdX11_is_0 7 rfl
theorem dX11_is_14 : decode cX11_is 14 = .ok (.ireturn, 1) := kq.at kqdX11_is_0 8 rfl
theorem kqdX11_refuse_0 : kq cX11_refuse [(0, .aload_n 0, 1), (1, .iload_n 1, 1), (2, .putfield 99, 3), (5, .iconst (-1), 1), (6, .ireturn, 1)] = true := by decide +kernel
theorem dX11_refuse_0 : decode cX11_refuse 0 = .ok (.aload_n 0, 1) := kq.at kqdX11_refuse_0 0 rfl
theorem dX11_refuse_1 : decode cX11_refuse 1 = .ok (.iload_n 1, 1) := kq.at kqdX11_refuse_0 1 rfl
theorem dX11_refuse_2 : decode cX11_refuse 2 = .ok (.putfield 99, 3) := kq.at kqdX11_refuse_0 2 rfl
theorem dX11_refuse_5 : decode cX11_refuse 5 = .ok (.iconst (-1), 1) := kq.at kqdX11_refuse_0 3 rfl
theorem dX11_refuse_6 : decode cX11_refuse 6 = .ok (.ireturn, 1) := kq.at kqdX11_refuse_0 4 rfl
theorem kqdX11_gives_0 : kq cX11_gives [(0, .aload_n 0, 1), (1, .iconst 0, 1), (2, .putfield 99, 3), (5, .iload_n 1, 1), (6, .ireturn, 1)] = true := by decide +kernel
theorem dX11_gives_0 : decode cX11_gives 0 = .ok (.aload_n 0, 1) := kq.at kqdX11_gives_0 0 rfl
theorem dX11_gives_1 : decode cX11_gives 1 = .ok (.iconst 0, 1) := kq.at kqdX11_gives_0 1 rfl
theorem dX11_gives_2 : decode cX11_gives 2 = .ok (.putfield 99, 3) := kq.at kqdX11_gives_0 2 rfl
theorem dX11_gives_5 : decode cX11_gives 5 = .ok (.iload_n 1, 1) := kq.at kqdX11_gives_0 3 rfl
theorem dX11_gives_6 : decode cX11_gives 6 = .ok (.ireturn, 1) := kq.at kqdX11_gives_0 4 rfl
theorem kqdX11_tellsBy_0 : kq cX11_tellsBy [(0, .lload_n 1, 1), (1, .lstore 5, 2), (3, .lload_n 3, 1), (4, .lstore 7, 2), (6, .lload 7, 2), (8, .lconst 0, 1), (9, .lcmp, 1), (10, .ifCond .eq 21, 3), (13, .lload 5, 2), (15, .lload 7, 2), (17, .lrem, 1), (18, .lstore 9, 2), (20, .lload 7, 2), (22, .lstore 5, 2), (24, .lload 9, 2), (26, .lstore 7, 2), (28, .goto (-22), 3), (31, .aload_n 0, 1), (32, .lload_n 1, 1), (33, .lload 5, 2), (35, .ldiv, 1), (36, .putfield 102, 3), (39, .aload_n 0, 1), (40, .lload_n 3, 1)] = true := by decide +kernel
theorem dX11_tellsBy_0 : decode cX11_tellsBy 0 = .ok (.lload_n 1, 1) := kq.at kqdX11_tellsBy_0 0 rfl
theorem dX11_tellsBy_1 : decode cX11_tellsBy 1 = .ok (.lstore 5, 2) := kq.at kqdX11_tellsBy_0 1 rfl
theorem dX11_tellsBy_3 : decode cX11_tellsBy 3 = .ok (.lload_n 3, 1) := kq.at kqdX11_tellsBy_0 2 rfl
theorem dX11_tellsBy_4 : decode cX11_tellsBy 4 = .ok (.lstore 7, 2) := kq.at kqdX11_tellsBy_0 3 rfl
theorem dX11_tellsBy_6 : decode cX11_tellsBy 6 = .ok (.lload 7, 2) := kq.at kqdX11_tellsBy_0 4 rfl
theorem dX11_tellsBy_8 : decode cX11_tellsBy 8 = .ok (.lconst 0, 1) := kq.at kqdX11_tellsBy_0 5 rfl
theorem dX11_tellsBy_9 : decode cX11_tellsBy 9 = .ok (.lcmp, 1) := kq.at kqdX11_tellsBy_0 6 rfl
theorem dX11_tellsBy_10 : decode cX11_tellsBy 10 = .ok (.ifCond .eq 21, 3) := kq.at kqdX11_tellsBy_0 7 rfl
theorem dX11_tellsBy_13 : decode cX11_tellsBy 13 = .ok (.lload 5, 2) := kq.at kqdX11_tellsBy_0 8 rfl
theorem dX11_tellsBy_15 : decode cX11_tellsBy 15 = .ok (.lload 7, 2) := kq.at kqdX11_tellsBy_0 9 rfl
theorem dX11_tellsBy_17 : decode cX11_tellsBy 17 = .ok (.lrem, 1) := kq.at kqdX11_tellsBy_0 10 rfl
theorem dX11_tellsBy_18 : decode cX11_tellsBy 18 = .ok (.lstore 9, 2) := kq.at kqdX11_tellsBy_0 11 rfl
theorem dX11_tellsBy_20 : decode cX11_tellsBy 20 = .ok (.lload 7, 2) := kq.at kqdX11_tellsBy_0 12 rfl
theorem dX11_tellsBy_22 : decode cX11_tellsBy 22 = .ok (.lstore 5, 2) := kq.at kqdX11_tellsBy_0 13 rfl
theorem dX11_tellsBy_24 : decode cX11_tellsBy 24 = .ok (.lload 9, 2) := kq.at kqdX11_tellsBy_0 14 rfl
theorem dX11_tellsBy_26 : decode cX11_tellsBy 26 = .ok (.lstore 7, 2) := kq.at kqdX11_tellsBy_0 15 rfl
theorem dX11_tellsBy_28 : decode cX11_tellsBy 28 = .ok (.goto (-22), 3) := kq.at kqdX11_tellsBy_0 16 rfl
theorem dX11_tellsBy_31 : decode cX11_tellsBy 31 = .ok (.aload_n 0, 1) := kq.at kqdX11_tellsBy_0 17 rfl
theorem dX11_tellsBy_32 : decode cX11_tellsBy 32 = .ok (.lload_n 1, 1) := kq.at kqdX11_tellsBy_0 18 rfl
theorem dX11_tellsBy_33 : decode cX11_tellsBy 33 = .ok (.lload 5, 2) := kq.at kqdX11_tellsBy_0 19 rfl
theorem dX11_tellsBy_35 : decode cX11_tellsBy 35 = .ok (.ldiv, 1) := kq.at kqdX11_tellsBy_0 20 rfl
theorem dX11_tellsBy_36 : decode cX11_tellsBy 36 = .ok (.putfield 102, 3) := kq.at kqdX11_tellsBy_0 21 rfl
theorem dX11_tellsBy_39 : decode cX11_tellsBy 39 = .ok (.aload_n 0, 1) := kq.at kqdX11_tellsBy_0 22 rfl
theorem dX11_tellsBy_40 : decode cX11_tellsBy 40 = .ok (.lload_n 3, 1) := kq.at kqdX11_tellsBy_0 23 rfl
theorem kqdX11_tellsBy_41 : kq cX11_tellsBy [(41, .lload 5, 2), (43, .ldiv, 1), (44, .putfield 13, 3), (47, .aload_n 0, 1), (48, .iconst 0, 1), (49, .invokevirtual 105, 3), (52, .ireturn, 1)] = true := by decide +kernel
theorem dX11_tellsBy_41 : decode cX11_tellsBy 41 = .ok (.lload 5, 2) := kq.at kqdX11_tellsBy_41 0 rfl
theorem dX11_tellsBy_43 : decode cX11_tellsBy 43 = .ok (.ldiv, 1) := kq.at kqdX11_tellsBy_41 1 rfl
theorem dX11_tellsBy_44 : decode cX11_tellsBy 44 = .ok (.putfield 13, 3) := kq.at kqdX11_tellsBy_41 2 rfl
theorem dX11_tellsBy_47 : decode cX11_tellsBy 47 = .ok (.aload_n 0, 1) := kq.at kqdX11_tellsBy_41 3 rfl
theorem dX11_tellsBy_48 : decode cX11_tellsBy 48 = .ok (.iconst 0, 1) := kq.at kqdX11_tellsBy_41 4 rfl
theorem dX11_tellsBy_49 : decode cX11_tellsBy 49 = .ok (.invokevirtual 105, 3) := kq.at kqdX11_tellsBy_41 5 rfl
theorem dX11_tellsBy_52 : decode cX11_tellsBy 52 = .ok (.ireturn, 1) := kq.at kqdX11_tellsBy_41 6 rfl
theorem kqdX11_isTray_0 : kq cX11_isTray [(0, .iload_n 0, 1), (1, .ifCond .lt 12, 3), (4, .iload_n 0, 1), (5, .iconst 4, 1), (6, .if_icmp .ge 7, 3), (9, .iconst 1, 1), (10, .goto 4, 3), (13, .iconst 0, 1), (14, .ireturn, 1)] = true := by decide +kernel
theorem dX11_isTray_0 : decode cX11_isTray 0 = .ok (.iload_n 0, 1) := kq.at kqdX11_isTray_0 0 rfl
theorem dX11_isTray_1 : decode cX11_isTray 1 = .ok (.ifCond .lt 12, 3) := kq.at kqdX11_isTray_0 1 rfl
theorem dX11_isTray_4 : decode cX11_isTray 4 = .ok (.iload_n 0, 1) := kq.at kqdX11_isTray_0 2 rfl
theorem dX11_isTray_5 : decode cX11_isTray 5 = .ok (.iconst 4, 1) := kq.at kqdX11_isTray_0 3 rfl
theorem dX11_isTray_6 : decode cX11_isTray 6 = .ok (.if_icmp .ge 7, 3) := kq.at kqdX11_isTray_0 4 rfl
theorem dX11_isTray_9 : decode cX11_isTray 9 = .ok (.iconst 1, 1) := kq.at kqdX11_isTray_0 5 rfl
theorem dX11_isTray_10 : decode cX11_isTray 10 = .ok (.goto 4, 3) := kq.at kqdX11_isTray_0 6 rfl
theorem dX11_isTray_13 : decode cX11_isTray 13 = .ok (.iconst 0, 1) := kq.at kqdX11_isTray_0 7 rfl
theorem dX11_isTray_14 : decode cX11_isTray 14 = .ok (.ireturn, 1) := kq.at kqdX11_isTray_0 8 rfl
theorem kqdX11_cut_0 : kq cX11_cut [(0, .iload_n 2, 1), (1, .ifCond .ne 10, 3), (4, .lload_n 0, 1), (5, .l2i, 1), (6, .i2b, 1), (7, .i2l, 1), (8, .goto 27, 3), (11, .iload_n 2, 1), (12, .iconst 1, 1), (13, .if_icmp .ne 10, 3), (16, .lload_n 0, 1), (17, .l2i, 1), (18, .i2s, 1), (19, .i2l, 1), (20, .goto 15, 3), (23, .iload_n 2, 1), (24, .iconst 2, 1), (25, .if_icmp .ne 9, 3), (28, .lload_n 0, 1), (29, .l2i, 1), (30, .i2l, 1), (31, .goto 4, 3), (34, .lload_n 0, 1), (35, .lreturn, 1)] = true := by decide +kernel
theorem dX11_cut_0 : decode cX11_cut 0 = .ok (.iload_n 2, 1) := kq.at kqdX11_cut_0 0 rfl
theorem dX11_cut_1 : decode cX11_cut 1 = .ok (.ifCond .ne 10, 3) := kq.at kqdX11_cut_0 1 rfl
theorem dX11_cut_4 : decode cX11_cut 4 = .ok (.lload_n 0, 1) := kq.at kqdX11_cut_0 2 rfl
theorem dX11_cut_5 : decode cX11_cut 5 = .ok (.l2i, 1) := kq.at kqdX11_cut_0 3 rfl
theorem dX11_cut_6 : decode cX11_cut 6 = .ok (.i2b, 1) := kq.at kqdX11_cut_0 4 rfl
theorem dX11_cut_7 : decode cX11_cut 7 = .ok (.i2l, 1) := kq.at kqdX11_cut_0 5 rfl
theorem dX11_cut_8 : decode cX11_cut 8 = .ok (.goto 27, 3) := kq.at kqdX11_cut_0 6 rfl
theorem dX11_cut_11 : decode cX11_cut 11 = .ok (.iload_n 2, 1) := kq.at kqdX11_cut_0 7 rfl
theorem dX11_cut_12 : decode cX11_cut 12 = .ok (.iconst 1, 1) := kq.at kqdX11_cut_0 8 rfl
theorem dX11_cut_13 : decode cX11_cut 13 = .ok (.if_icmp .ne 10, 3) := kq.at kqdX11_cut_0 9 rfl
theorem dX11_cut_16 : decode cX11_cut 16 = .ok (.lload_n 0, 1) := kq.at kqdX11_cut_0 10 rfl
theorem dX11_cut_17 : decode cX11_cut 17 = .ok (.l2i, 1) := kq.at kqdX11_cut_0 11 rfl
theorem dX11_cut_18 : decode cX11_cut 18 = .ok (.i2s, 1) := kq.at kqdX11_cut_0 12 rfl
theorem dX11_cut_19 : decode cX11_cut 19 = .ok (.i2l, 1) := kq.at kqdX11_cut_0 13 rfl
theorem dX11_cut_20 : decode cX11_cut 20 = .ok (.goto 15, 3) := kq.at kqdX11_cut_0 14 rfl
theorem dX11_cut_23 : decode cX11_cut 23 = .ok (.iload_n 2, 1) := kq.at kqdX11_cut_0 15 rfl
theorem dX11_cut_24 : decode cX11_cut 24 = .ok (.iconst 2, 1) := kq.at kqdX11_cut_0 16 rfl
theorem dX11_cut_25 : decode cX11_cut 25 = .ok (.if_icmp .ne 9, 3) := kq.at kqdX11_cut_0 17 rfl
theorem dX11_cut_28 : decode cX11_cut 28 = .ok (.lload_n 0, 1) := kq.at kqdX11_cut_0 18 rfl
theorem dX11_cut_29 : decode cX11_cut 29 = .ok (.l2i, 1) := kq.at kqdX11_cut_0 19 rfl
theorem dX11_cut_30 : decode cX11_cut 30 = .ok (.i2l, 1) := kq.at kqdX11_cut_0 20 rfl
theorem dX11_cut_31 : decode cX11_cut 31 = .ok (.goto 4, 3) := kq.at kqdX11_cut_0 21 rfl
theorem dX11_cut_34 : decode cX11_cut 34 = .ok (.lload_n 0, 1) := kq.at kqdX11_cut_0 22 rfl
theorem dX11_cut_35 : decode cX11_cut 35 = .ok (.lreturn, 1) := kq.at kqdX11_cut_0 23 rfl
theorem kqdX11_tray_0 : kq cX11_tray [(0, .iload_n 1, 1), (1, .invokestatic 109, 3), (4, .ifCond .eq 22, 3), (7, .iload_n 2, 1), (8, .ifCond .lt 18, 3), (11, .iload_n 2, 1), (12, .iconst 3, 1), (13, .if_icmp .gt 13, 3), (16, .iload_n 3, 1), (17, .ifCond .lt 9, 3), (20, .iload_n 3, 1), (21, .bipush 60, 2), (23, .if_icmp .le 9, 3), (26, .aload_n 0, 1), (27, .iconst 1, 1), (28, .invokevirtual 105, 3), (31, .ireturn, 1), (32, .aload_n 0, 1), (33, .getfield 17, 3), (36, .iload_n 1, 1), (37, .iload_n 2, 1), (38, .iastore, 1), (39, .aload_n 0, 1), (40, .getfield 20, 3)] = true := by decide +kernel
theorem dX11_tray_0 : decode cX11_tray 0 = .ok (.iload_n 1, 1) := kq.at kqdX11_tray_0 0 rfl
theorem dX11_tray_1 : decode cX11_tray 1 = .ok (.invokestatic 109, 3) := kq.at kqdX11_tray_0 1 rfl
theorem dX11_tray_4 : decode cX11_tray 4 = .ok (.ifCond .eq 22, 3) := kq.at kqdX11_tray_0 2 rfl
theorem dX11_tray_7 : decode cX11_tray 7 = .ok (.iload_n 2, 1) := kq.at kqdX11_tray_0 3 rfl
theorem dX11_tray_8 : decode cX11_tray 8 = .ok (.ifCond .lt 18, 3) := kq.at kqdX11_tray_0 4 rfl
theorem dX11_tray_11 : decode cX11_tray 11 = .ok (.iload_n 2, 1) := kq.at kqdX11_tray_0 5 rfl
theorem dX11_tray_12 : decode cX11_tray 12 = .ok (.iconst 3, 1) := kq.at kqdX11_tray_0 6 rfl
theorem dX11_tray_13 : decode cX11_tray 13 = .ok (.if_icmp .gt 13, 3) := kq.at kqdX11_tray_0 7 rfl
theorem dX11_tray_16 : decode cX11_tray 16 = .ok (.iload_n 3, 1) := kq.at kqdX11_tray_0 8 rfl
theorem dX11_tray_17 : decode cX11_tray 17 = .ok (.ifCond .lt 9, 3) := kq.at kqdX11_tray_0 9 rfl
theorem dX11_tray_20 : decode cX11_tray 20 = .ok (.iload_n 3, 1) := kq.at kqdX11_tray_0 10 rfl
theorem dX11_tray_21 : decode cX11_tray 21 = .ok (.bipush 60, 2) := kq.at kqdX11_tray_0 11 rfl
theorem dX11_tray_23 : decode cX11_tray 23 = .ok (.if_icmp .le 9, 3) := kq.at kqdX11_tray_0 12 rfl
theorem dX11_tray_26 : decode cX11_tray 26 = .ok (.aload_n 0, 1) := kq.at kqdX11_tray_0 13 rfl
theorem dX11_tray_27 : decode cX11_tray 27 = .ok (.iconst 1, 1) := kq.at kqdX11_tray_0 14 rfl
theorem dX11_tray_28 : decode cX11_tray 28 = .ok (.invokevirtual 105, 3) := kq.at kqdX11_tray_0 15 rfl
theorem dX11_tray_31 : decode cX11_tray 31 = .ok (.ireturn, 1) := kq.at kqdX11_tray_0 16 rfl
theorem dX11_tray_32 : decode cX11_tray 32 = .ok (.aload_n 0, 1) := kq.at kqdX11_tray_0 17 rfl
theorem dX11_tray_33 : decode cX11_tray 33 = .ok (.getfield 17, 3) := kq.at kqdX11_tray_0 18 rfl
theorem dX11_tray_36 : decode cX11_tray 36 = .ok (.iload_n 1, 1) := kq.at kqdX11_tray_0 19 rfl
theorem dX11_tray_37 : decode cX11_tray 37 = .ok (.iload_n 2, 1) := kq.at kqdX11_tray_0 20 rfl
theorem dX11_tray_38 : decode cX11_tray 38 = .ok (.iastore, 1) := kq.at kqdX11_tray_0 21 rfl
theorem dX11_tray_39 : decode cX11_tray 39 = .ok (.aload_n 0, 1) := kq.at kqdX11_tray_0 22 rfl
theorem dX11_tray_40 : decode cX11_tray 40 = .ok (.getfield 20, 3) := kq.at kqdX11_tray_0 23 rfl
theorem kqdX11_tray_43 : kq cX11_tray [(43, .iload_n 1, 1), (44, .iload_n 3, 1), (45, .iastore, 1), (46, .iconst 0, 1), (47, .istore 4, 2), (49, .iload 4, 2), (51, .iload_n 3, 1), (52, .if_icmp .ge 22, 3), (55, .aload_n 0, 1), (56, .getfield 23, 3), (59, .bipush 60, 2), (61, .iload_n 1, 1), (62, .imul, 1), (63, .iload 4, 2), (65, .iadd, 1), (66, .lconst 0, 1), (67, .lastore, 1), (68, .iinc 4 1, 3), (71, .goto (-22), 3), (74, .aload_n 0, 1), (75, .iconst 0, 1), (76, .invokevirtual 105, 3), (79, .ireturn, 1)] = true := by decide +kernel
theorem dX11_tray_43 : decode cX11_tray 43 = .ok (.iload_n 1, 1) := kq.at kqdX11_tray_43 0 rfl
theorem dX11_tray_44 : decode cX11_tray 44 = .ok (.iload_n 3, 1) := kq.at kqdX11_tray_43 1 rfl
theorem dX11_tray_45 : decode cX11_tray 45 = .ok (.iastore, 1) := kq.at kqdX11_tray_43 2 rfl
theorem dX11_tray_46 : decode cX11_tray 46 = .ok (.iconst 0, 1) := kq.at kqdX11_tray_43 3 rfl
theorem dX11_tray_47 : decode cX11_tray 47 = .ok (.istore 4, 2) := kq.at kqdX11_tray_43 4 rfl
theorem dX11_tray_49 : decode cX11_tray 49 = .ok (.iload 4, 2) := kq.at kqdX11_tray_43 5 rfl
theorem dX11_tray_51 : decode cX11_tray 51 = .ok (.iload_n 3, 1) := kq.at kqdX11_tray_43 6 rfl
theorem dX11_tray_52 : decode cX11_tray 52 = .ok (.if_icmp .ge 22, 3) := kq.at kqdX11_tray_43 7 rfl
theorem dX11_tray_55 : decode cX11_tray 55 = .ok (.aload_n 0, 1) := kq.at kqdX11_tray_43 8 rfl
theorem dX11_tray_56 : decode cX11_tray 56 = .ok (.getfield 23, 3) := kq.at kqdX11_tray_43 9 rfl
theorem dX11_tray_59 : decode cX11_tray 59 = .ok (.bipush 60, 2) := kq.at kqdX11_tray_43 10 rfl
theorem dX11_tray_61 : decode cX11_tray 61 = .ok (.iload_n 1, 1) := kq.at kqdX11_tray_43 11 rfl
theorem dX11_tray_62 : decode cX11_tray 62 = .ok (.imul, 1) := kq.at kqdX11_tray_43 12 rfl
theorem dX11_tray_63 : decode cX11_tray 63 = .ok (.iload 4, 2) := kq.at kqdX11_tray_43 13 rfl
theorem dX11_tray_65 : decode cX11_tray 65 = .ok (.iadd, 1) := kq.at kqdX11_tray_43 14 rfl
theorem dX11_tray_66 : decode cX11_tray 66 = .ok (.lconst 0, 1) := kq.at kqdX11_tray_43 15 rfl
theorem dX11_tray_67 : decode cX11_tray 67 = .ok (.lastore, 1) := kq.at kqdX11_tray_43 16 rfl
theorem dX11_tray_68 : decode cX11_tray 68 = .ok (.iinc 4 1, 3) := kq.at kqdX11_tray_43 17 rfl
theorem dX11_tray_71 : decode cX11_tray 71 = .ok (.goto (-22), 3) := kq.at kqdX11_tray_43 18 rfl
theorem dX11_tray_74 : decode cX11_tray 74 = .ok (.aload_n 0, 1) := kq.at kqdX11_tray_43 19 rfl
theorem dX11_tray_75 : decode cX11_tray 75 = .ok (.iconst 0, 1) := kq.at kqdX11_tray_43 20 rfl
theorem dX11_tray_76 : decode cX11_tray 76 = .ok (.invokevirtual 105, 3) := kq.at kqdX11_tray_43 21 rfl
theorem dX11_tray_79 : decode cX11_tray 79 = .ok (.ireturn, 1) := kq.at kqdX11_tray_43 22 rfl
theorem kqdX11_wrongPlace_0 : kq cX11_wrongPlace [(0, .iload_n 1, 1), (1, .invokestatic 109, 3), (4, .ifCond .ne 7, 3), (7, .iconst 1, 1), (8, .goto 36, 3), (11, .aload_n 0, 1), (12, .getfield 20, 3), (15, .iload_n 1, 1), (16, .iaload, 1), (17, .iconst (-1), 1), (18, .if_icmp .ne 7, 3), (21, .iconst 2, 1), (22, .goto 22, 3), (25, .iload_n 2, 1), (26, .ifCond .lt 13, 3), (29, .iload_n 2, 1), (30, .aload_n 0, 1), (31, .getfield 20, 3), (34, .iload_n 1, 1), (35, .iaload, 1), (36, .if_icmp .lt 7, 3), (39, .iconst 3, 1), (40, .goto 4, 3), (43, .iconst 0, 1)] = true := by decide +kernel
theorem dX11_wrongPlace_0 : decode cX11_wrongPlace 0 = .ok (.iload_n 1, 1) := kq.at kqdX11_wrongPlace_0 0 rfl
theorem dX11_wrongPlace_1 : decode cX11_wrongPlace 1 = .ok (.invokestatic 109, 3) := kq.at kqdX11_wrongPlace_0 1 rfl
theorem dX11_wrongPlace_4 : decode cX11_wrongPlace 4 = .ok (.ifCond .ne 7, 3) := kq.at kqdX11_wrongPlace_0 2 rfl
theorem dX11_wrongPlace_7 : decode cX11_wrongPlace 7 = .ok (.iconst 1, 1) := kq.at kqdX11_wrongPlace_0 3 rfl
theorem dX11_wrongPlace_8 : decode cX11_wrongPlace 8 = .ok (.goto 36, 3) := kq.at kqdX11_wrongPlace_0 4 rfl
theorem dX11_wrongPlace_11 : decode cX11_wrongPlace 11 = .ok (.aload_n 0, 1) := kq.at kqdX11_wrongPlace_0 5 rfl
theorem dX11_wrongPlace_12 : decode cX11_wrongPlace 12 = .ok (.getfield 20, 3) := kq.at kqdX11_wrongPlace_0 6 rfl
theorem dX11_wrongPlace_15 : decode cX11_wrongPlace 15 = .ok (.iload_n 1, 1) := kq.at kqdX11_wrongPlace_0 7 rfl
theorem dX11_wrongPlace_16 : decode cX11_wrongPlace 16 = .ok (.iaload, 1) := kq.at kqdX11_wrongPlace_0 8 rfl
theorem dX11_wrongPlace_17 : decode cX11_wrongPlace 17 = .ok (.iconst (-1), 1) := kq.at kqdX11_wrongPlace_0 9 rfl
theorem dX11_wrongPlace_18 : decode cX11_wrongPlace 18 = .ok (.if_icmp .ne 7, 3) := kq.at kqdX11_wrongPlace_0 10 rfl
theorem dX11_wrongPlace_21 : decode cX11_wrongPlace 21 = .ok (.iconst 2, 1) := kq.at kqdX11_wrongPlace_0 11 rfl
theorem dX11_wrongPlace_22 : decode cX11_wrongPlace 22 = .ok (.goto 22, 3) := kq.at kqdX11_wrongPlace_0 12 rfl
theorem dX11_wrongPlace_25 : decode cX11_wrongPlace 25 = .ok (.iload_n 2, 1) := kq.at kqdX11_wrongPlace_0 13 rfl
theorem dX11_wrongPlace_26 : decode cX11_wrongPlace 26 = .ok (.ifCond .lt 13, 3) := kq.at kqdX11_wrongPlace_0 14 rfl
theorem dX11_wrongPlace_29 : decode cX11_wrongPlace 29 = .ok (.iload_n 2, 1) := kq.at kqdX11_wrongPlace_0 15 rfl
theorem dX11_wrongPlace_30 : decode cX11_wrongPlace 30 = .ok (.aload_n 0, 1) := kq.at kqdX11_wrongPlace_0 16 rfl
theorem dX11_wrongPlace_31 : decode cX11_wrongPlace 31 = .ok (.getfield 20, 3) := kq.at kqdX11_wrongPlace_0 17 rfl
theorem dX11_wrongPlace_34 : decode cX11_wrongPlace 34 = .ok (.iload_n 1, 1) := kq.at kqdX11_wrongPlace_0 18 rfl
theorem dX11_wrongPlace_35 : decode cX11_wrongPlace 35 = .ok (.iaload, 1) := kq.at kqdX11_wrongPlace_0 19 rfl
theorem dX11_wrongPlace_36 : decode cX11_wrongPlace 36 = .ok (.if_icmp .lt 7, 3) := kq.at kqdX11_wrongPlace_0 20 rfl
theorem dX11_wrongPlace_39 : decode cX11_wrongPlace 39 = .ok (.iconst 3, 1) := kq.at kqdX11_wrongPlace_0 21 rfl
theorem dX11_wrongPlace_40 : decode cX11_wrongPlace 40 = .ok (.goto 4, 3) := kq.at kqdX11_wrongPlace_0 22 rfl
theorem dX11_wrongPlace_43 : decode cX11_wrongPlace 43 = .ok (.iconst 0, 1) := kq.at kqdX11_wrongPlace_0 23 rfl
theorem dX11_wrongPlace_44 : decode cX11_wrongPlace 44 = .ok (.ireturn, 1) := by decide +kernel
theorem kqdX11_write_0 : kq cX11_write [(0, .aload_n 0, 1), (1, .iload_n 1, 1), (2, .iload_n 2, 1), (3, .invokevirtual 112, 3), (6, .istore 5, 2), (8, .iload 5, 2), (10, .ifCond .ne 24, 3), (13, .aload_n 0, 1), (14, .getfield 23, 3), (17, .bipush 60, 2), (19, .iload_n 1, 1), (20, .imul, 1), (21, .iload_n 2, 1), (22, .iadd, 1), (23, .lload_n 3, 1), (24, .aload_n 0, 1), (25, .getfield 17, 3), (28, .iload_n 1, 1), (29, .iaload, 1), (30, .invokestatic 116, 3), (33, .lastore, 1), (34, .aload_n 0, 1), (35, .iload 5, 2), (37, .invokevirtual 105, 3)] = true := by decide +kernel
theorem dX11_write_0 : decode cX11_write 0 = .ok (.aload_n 0, 1) := kq.at kqdX11_write_0 0 rfl
theorem dX11_write_1 : decode cX11_write 1 = .ok (.iload_n 1, 1) := kq.at kqdX11_write_0 1 rfl
theorem dX11_write_2 : decode cX11_write 2 = .ok (.iload_n 2, 1) := kq.at kqdX11_write_0 2 rfl
theorem dX11_write_3 : decode cX11_write 3 = .ok (.invokevirtual 112, 3) := kq.at kqdX11_write_0 3 rfl
theorem dX11_write_6 : decode cX11_write 6 = .ok (.istore 5, 2) := kq.at kqdX11_write_0 4 rfl
theorem dX11_write_8 : decode cX11_write 8 = .ok (.iload 5, 2) := kq.at kqdX11_write_0 5 rfl
theorem dX11_write_10 : decode cX11_write 10 = .ok (.ifCond .ne 24, 3) := kq.at kqdX11_write_0 6 rfl
theorem dX11_write_13 : decode cX11_write 13 = .ok (.aload_n 0, 1) := kq.at kqdX11_write_0 7 rfl
theorem dX11_write_14 : decode cX11_write 14 = .ok (.getfield 23, 3) := kq.at kqdX11_write_0 8 rfl
theorem dX11_write_17 : decode cX11_write 17 = .ok (.bipush 60, 2) := kq.at kqdX11_write_0 9 rfl
theorem dX11_write_19 : decode cX11_write 19 = .ok (.iload_n 1, 1) := kq.at kqdX11_write_0 10 rfl
theorem dX11_write_20 : decode cX11_write 20 = .ok (.imul, 1) := kq.at kqdX11_write_0 11 rfl
theorem dX11_write_21 : decode cX11_write 21 = .ok (.iload_n 2, 1) := kq.at kqdX11_write_0 12 rfl
theorem dX11_write_22 : decode cX11_write 22 = .ok (.iadd, 1) := kq.at kqdX11_write_0 13 rfl
theorem dX11_write_23 : decode cX11_write 23 = .ok (.lload_n 3, 1) := kq.at kqdX11_write_0 14 rfl
theorem dX11_write_24 : decode cX11_write 24 = .ok (.aload_n 0, 1) := kq.at kqdX11_write_0 15 rfl
theorem dX11_write_25 : decode cX11_write 25 = .ok (.getfield 17, 3) := kq.at kqdX11_write_0 16 rfl
theorem dX11_write_28 : decode cX11_write 28 = .ok (.iload_n 1, 1) := kq.at kqdX11_write_0 17 rfl
theorem dX11_write_29 : decode cX11_write 29 = .ok (.iaload, 1) := kq.at kqdX11_write_0 18 rfl
theorem dX11_write_30 : decode cX11_write 30 = .ok (.invokestatic 116, 3) := kq.at kqdX11_write_0 19 rfl
theorem dX11_write_33 : decode cX11_write 33 = .ok (.lastore, 1) := kq.at kqdX11_write_0 20 rfl
theorem dX11_write_34 : decode cX11_write 34 = .ok (.aload_n 0, 1) := kq.at kqdX11_write_0 21 rfl
theorem dX11_write_35 : decode cX11_write 35 = .ok (.iload 5, 2) := kq.at kqdX11_write_0 22 rfl
theorem dX11_write_37 : decode cX11_write 37 = .ok (.invokevirtual 105, 3) := kq.at kqdX11_write_0 23 rfl
theorem dX11_write_40 : decode cX11_write 40 = .ok (.ireturn, 1) := by decide +kernel
theorem kqdX11_read_0 : kq cX11_read [(0, .aload_n 0, 1), (1, .aload_n 0, 1), (2, .iload_n 1, 1), (3, .iload_n 2, 1), (4, .invokevirtual 112, 3), (7, .putfield 99, 3), (10, .aload_n 0, 1), (11, .getfield 99, 3), (14, .ifCond .le 9, 3), (17, .ldc2_w 120, 3), (20, .goto 14, 3), (23, .aload_n 0, 1), (24, .getfield 23, 3), (27, .bipush 60, 2), (29, .iload_n 1, 1), (30, .imul, 1), (31, .iload_n 2, 1), (32, .iadd, 1), (33, .laload, 1), (34, .lreturn, 1)] = true := by decide +kernel
theorem dX11_read_0 : decode cX11_read 0 = .ok (.aload_n 0, 1) := kq.at kqdX11_read_0 0 rfl
theorem dX11_read_1 : decode cX11_read 1 = .ok (.aload_n 0, 1) := kq.at kqdX11_read_0 1 rfl
theorem dX11_read_2 : decode cX11_read 2 = .ok (.iload_n 1, 1) := kq.at kqdX11_read_0 2 rfl
theorem dX11_read_3 : decode cX11_read 3 = .ok (.iload_n 2, 1) := kq.at kqdX11_read_0 3 rfl
theorem dX11_read_4 : decode cX11_read 4 = .ok (.invokevirtual 112, 3) := kq.at kqdX11_read_0 4 rfl
theorem dX11_read_7 : decode cX11_read 7 = .ok (.putfield 99, 3) := kq.at kqdX11_read_0 5 rfl
theorem dX11_read_10 : decode cX11_read 10 = .ok (.aload_n 0, 1) := kq.at kqdX11_read_0 6 rfl
theorem dX11_read_11 : decode cX11_read 11 = .ok (.getfield 99, 3) := kq.at kqdX11_read_0 7 rfl
theorem dX11_read_14 : decode cX11_read 14 = .ok (.ifCond .le 9, 3) := kq.at kqdX11_read_0 8 rfl
theorem dX11_read_17 : decode cX11_read 17 = .ok (.ldc2_w 120, 3) := kq.at kqdX11_read_0 9 rfl
theorem dX11_read_20 : decode cX11_read 20 = .ok (.goto 14, 3) := kq.at kqdX11_read_0 10 rfl
theorem dX11_read_23 : decode cX11_read 23 = .ok (.aload_n 0, 1) := kq.at kqdX11_read_0 11 rfl
theorem dX11_read_24 : decode cX11_read 24 = .ok (.getfield 23, 3) := kq.at kqdX11_read_0 12 rfl
theorem dX11_read_27 : decode cX11_read 27 = .ok (.bipush 60, 2) := kq.at kqdX11_read_0 13 rfl
theorem dX11_read_29 : decode cX11_read 29 = .ok (.iload_n 1, 1) := kq.at kqdX11_read_0 14 rfl
theorem dX11_read_30 : decode cX11_read 30 = .ok (.imul, 1) := kq.at kqdX11_read_0 15 rfl
theorem dX11_read_31 : decode cX11_read 31 = .ok (.iload_n 2, 1) := kq.at kqdX11_read_0 16 rfl
theorem dX11_read_32 : decode cX11_read 32 = .ok (.iadd, 1) := kq.at kqdX11_read_0 17 rfl
theorem dX11_read_33 : decode cX11_read 33 = .ok (.laload, 1) := kq.at kqdX11_read_0 18 rfl
theorem dX11_read_34 : decode cX11_read 34 = .ok (.lreturn, 1) := kq.at kqdX11_read_0 19 rfl
theorem kqdX11_pour_0 : kq cX11_pour [(0, .iload_n 1, 1), (1, .invokestatic 109, 3), (4, .ifCond .eq 24, 3), (7, .iload_n 3, 1), (8, .invokestatic 109, 3), (11, .ifCond .eq 17, 3), (14, .iload_n 2, 1), (15, .ifCond .lt 13, 3), (18, .iload 4, 2), (20, .ifCond .lt 8, 3), (23, .iload 5, 2), (25, .ifCond .ge 9, 3), (28, .aload_n 0, 1), (29, .iconst 1, 1), (30, .invokevirtual 105, 3), (33, .ireturn, 1), (34, .aload_n 0, 1), (35, .getfield 20, 3), (38, .iload_n 1, 1), (39, .iaload, 1), (40, .iconst (-1), 1), (41, .if_icmp .eq 13, 3), (44, .aload_n 0, 1), (45, .getfield 20, 3)] = true := by decide +kernel
theorem dX11_pour_0 : decode cX11_pour 0 = .ok (.iload_n 1, 1) := kq.at kqdX11_pour_0 0 rfl
theorem dX11_pour_1 : decode cX11_pour 1 = .ok (.invokestatic 109, 3) := kq.at kqdX11_pour_0 1 rfl
theorem dX11_pour_4 : decode cX11_pour 4 = .ok (.ifCond .eq 24, 3) := kq.at kqdX11_pour_0 2 rfl
theorem dX11_pour_7 : decode cX11_pour 7 = .ok (.iload_n 3, 1) := kq.at kqdX11_pour_0 3 rfl
theorem dX11_pour_8 : decode cX11_pour 8 = .ok (.invokestatic 109, 3) := kq.at kqdX11_pour_0 4 rfl
theorem dX11_pour_11 : decode cX11_pour 11 = .ok (.ifCond .eq 17, 3) := kq.at kqdX11_pour_0 5 rfl
theorem dX11_pour_14 : decode cX11_pour 14 = .ok (.iload_n 2, 1) := kq.at kqdX11_pour_0 6 rfl
theorem dX11_pour_15 : decode cX11_pour 15 = .ok (.ifCond .lt 13, 3) := kq.at kqdX11_pour_0 7 rfl
theorem dX11_pour_18 : decode cX11_pour 18 = .ok (.iload 4, 2) := kq.at kqdX11_pour_0 8 rfl
theorem dX11_pour_20 : decode cX11_pour 20 = .ok (.ifCond .lt 8, 3) := kq.at kqdX11_pour_0 9 rfl
theorem dX11_pour_23 : decode cX11_pour 23 = .ok (.iload 5, 2) := kq.at kqdX11_pour_0 10 rfl
theorem dX11_pour_25 : decode cX11_pour 25 = .ok (.ifCond .ge 9, 3) := kq.at kqdX11_pour_0 11 rfl
theorem dX11_pour_28 : decode cX11_pour 28 = .ok (.aload_n 0, 1) := kq.at kqdX11_pour_0 12 rfl
theorem dX11_pour_29 : decode cX11_pour 29 = .ok (.iconst 1, 1) := kq.at kqdX11_pour_0 13 rfl
theorem dX11_pour_30 : decode cX11_pour 30 = .ok (.invokevirtual 105, 3) := kq.at kqdX11_pour_0 14 rfl
theorem dX11_pour_33 : decode cX11_pour 33 = .ok (.ireturn, 1) := kq.at kqdX11_pour_0 15 rfl
theorem dX11_pour_34 : decode cX11_pour 34 = .ok (.aload_n 0, 1) := kq.at kqdX11_pour_0 16 rfl
theorem dX11_pour_35 : decode cX11_pour 35 = .ok (.getfield 20, 3) := kq.at kqdX11_pour_0 17 rfl
theorem dX11_pour_38 : decode cX11_pour 38 = .ok (.iload_n 1, 1) := kq.at kqdX11_pour_0 18 rfl
theorem dX11_pour_39 : decode cX11_pour 39 = .ok (.iaload, 1) := kq.at kqdX11_pour_0 19 rfl
theorem dX11_pour_40 : decode cX11_pour 40 = .ok (.iconst (-1), 1) := kq.at kqdX11_pour_0 20 rfl
theorem dX11_pour_41 : decode cX11_pour 41 = .ok (.if_icmp .eq 13, 3) := kq.at kqdX11_pour_0 21 rfl
theorem dX11_pour_44 : decode cX11_pour 44 = .ok (.aload_n 0, 1) := kq.at kqdX11_pour_0 22 rfl
theorem dX11_pour_45 : decode cX11_pour 45 = .ok (.getfield 20, 3) := kq.at kqdX11_pour_0 23 rfl
theorem kqdX11_pour_48 : kq cX11_pour [(48, .iload_n 3, 1), (49, .iaload, 1), (50, .iconst (-1), 1), (51, .if_icmp .ne 9, 3), (54, .aload_n 0, 1), (55, .iconst 2, 1), (56, .invokevirtual 105, 3), (59, .ireturn, 1), (60, .aload_n 0, 1), (61, .getfield 17, 3), (64, .iload_n 1, 1), (65, .iaload, 1), (66, .aload_n 0, 1), (67, .getfield 17, 3), (70, .iload_n 3, 1), (71, .iaload, 1), (72, .if_icmp .eq 10, 3), (75, .aload_n 0, 1), (76, .bipush 8, 2), (78, .invokevirtual 105, 3), (81, .ireturn, 1), (82, .iload 5, 2), (84, .aload_n 0, 1), (85, .getfield 20, 3)] = true := by decide +kernel
theorem dX11_pour_48 : decode cX11_pour 48 = .ok (.iload_n 3, 1) := kq.at kqdX11_pour_48 0 rfl
theorem dX11_pour_49 : decode cX11_pour 49 = .ok (.iaload, 1) := kq.at kqdX11_pour_48 1 rfl
theorem dX11_pour_50 : decode cX11_pour 50 = .ok (.iconst (-1), 1) := kq.at kqdX11_pour_48 2 rfl
theorem dX11_pour_51 : decode cX11_pour 51 = .ok (.if_icmp .ne 9, 3) := kq.at kqdX11_pour_48 3 rfl
theorem dX11_pour_54 : decode cX11_pour 54 = .ok (.aload_n 0, 1) := kq.at kqdX11_pour_48 4 rfl
theorem dX11_pour_55 : decode cX11_pour 55 = .ok (.iconst 2, 1) := kq.at kqdX11_pour_48 5 rfl
theorem dX11_pour_56 : decode cX11_pour 56 = .ok (.invokevirtual 105, 3) := kq.at kqdX11_pour_48 6 rfl
theorem dX11_pour_59 : decode cX11_pour 59 = .ok (.ireturn, 1) := kq.at kqdX11_pour_48 7 rfl
theorem dX11_pour_60 : decode cX11_pour 60 = .ok (.aload_n 0, 1) := kq.at kqdX11_pour_48 8 rfl
theorem dX11_pour_61 : decode cX11_pour 61 = .ok (.getfield 17, 3) := kq.at kqdX11_pour_48 9 rfl
theorem dX11_pour_64 : decode cX11_pour 64 = .ok (.iload_n 1, 1) := kq.at kqdX11_pour_48 10 rfl
theorem dX11_pour_65 : decode cX11_pour 65 = .ok (.iaload, 1) := kq.at kqdX11_pour_48 11 rfl
theorem dX11_pour_66 : decode cX11_pour 66 = .ok (.aload_n 0, 1) := kq.at kqdX11_pour_48 12 rfl
theorem dX11_pour_67 : decode cX11_pour 67 = .ok (.getfield 17, 3) := kq.at kqdX11_pour_48 13 rfl
theorem dX11_pour_70 : decode cX11_pour 70 = .ok (.iload_n 3, 1) := kq.at kqdX11_pour_48 14 rfl
theorem dX11_pour_71 : decode cX11_pour 71 = .ok (.iaload, 1) := kq.at kqdX11_pour_48 15 rfl
theorem dX11_pour_72 : decode cX11_pour 72 = .ok (.if_icmp .eq 10, 3) := kq.at kqdX11_pour_48 16 rfl
theorem dX11_pour_75 : decode cX11_pour 75 = .ok (.aload_n 0, 1) := kq.at kqdX11_pour_48 17 rfl
theorem dX11_pour_76 : decode cX11_pour 76 = .ok (.bipush 8, 2) := kq.at kqdX11_pour_48 18 rfl
theorem dX11_pour_78 : decode cX11_pour 78 = .ok (.invokevirtual 105, 3) := kq.at kqdX11_pour_48 19 rfl
theorem dX11_pour_81 : decode cX11_pour 81 = .ok (.ireturn, 1) := kq.at kqdX11_pour_48 20 rfl
theorem dX11_pour_82 : decode cX11_pour 82 = .ok (.iload 5, 2) := kq.at kqdX11_pour_48 21 rfl
theorem dX11_pour_84 : decode cX11_pour 84 = .ok (.aload_n 0, 1) := kq.at kqdX11_pour_48 22 rfl
theorem dX11_pour_85 : decode cX11_pour 85 = .ok (.getfield 20, 3) := kq.at kqdX11_pour_48 23 rfl
theorem kqdX11_pour_88 : kq cX11_pour [(88, .iload_n 1, 1), (89, .iaload, 1), (90, .iload_n 2, 1), (91, .isub, 1), (92, .if_icmp .gt 17, 3), (95, .iload 5, 2), (97, .aload_n 0, 1), (98, .getfield 20, 3), (101, .iload_n 3, 1), (102, .iaload, 1), (103, .iload 4, 2), (105, .isub, 1), (106, .if_icmp .le 9, 3), (109, .aload_n 0, 1), (110, .iconst 3, 1), (111, .invokevirtual 105, 3), (114, .ireturn, 1), (115, .iconst 0, 1), (116, .istore 6, 2), (118, .iload 6, 2), (120, .iload 5, 2), (122, .if_icmp .ge 58, 3), (125, .iload_n 2, 1), (126, .iload 4, 2)] = true := by decide +kernel
theorem dX11_pour_88 : decode cX11_pour 88 = .ok (.iload_n 1, 1) := kq.at kqdX11_pour_88 0 rfl
theorem dX11_pour_89 : decode cX11_pour 89 = .ok (.iaload, 1) := kq.at kqdX11_pour_88 1 rfl
theorem dX11_pour_90 : decode cX11_pour 90 = .ok (.iload_n 2, 1) := kq.at kqdX11_pour_88 2 rfl
theorem dX11_pour_91 : decode cX11_pour 91 = .ok (.isub, 1) := kq.at kqdX11_pour_88 3 rfl
theorem dX11_pour_92 : decode cX11_pour 92 = .ok (.if_icmp .gt 17, 3) := kq.at kqdX11_pour_88 4 rfl
theorem dX11_pour_95 : decode cX11_pour 95 = .ok (.iload 5, 2) := kq.at kqdX11_pour_88 5 rfl
theorem dX11_pour_97 : decode cX11_pour 97 = .ok (.aload_n 0, 1) := kq.at kqdX11_pour_88 6 rfl
theorem dX11_pour_98 : decode cX11_pour 98 = .ok (.getfield 20, 3) := kq.at kqdX11_pour_88 7 rfl
theorem dX11_pour_101 : decode cX11_pour 101 = .ok (.iload_n 3, 1) := kq.at kqdX11_pour_88 8 rfl
theorem dX11_pour_102 : decode cX11_pour 102 = .ok (.iaload, 1) := kq.at kqdX11_pour_88 9 rfl
theorem dX11_pour_103 : decode cX11_pour 103 = .ok (.iload 4, 2) := kq.at kqdX11_pour_88 10 rfl
theorem dX11_pour_105 : decode cX11_pour 105 = .ok (.isub, 1) := kq.at kqdX11_pour_88 11 rfl
theorem dX11_pour_106 : decode cX11_pour 106 = .ok (.if_icmp .le 9, 3) := kq.at kqdX11_pour_88 12 rfl
theorem dX11_pour_109 : decode cX11_pour 109 = .ok (.aload_n 0, 1) := kq.at kqdX11_pour_88 13 rfl
theorem dX11_pour_110 : decode cX11_pour 110 = .ok (.iconst 3, 1) := kq.at kqdX11_pour_88 14 rfl
theorem dX11_pour_111 : decode cX11_pour 111 = .ok (.invokevirtual 105, 3) := kq.at kqdX11_pour_88 15 rfl
theorem dX11_pour_114 : decode cX11_pour 114 = .ok (.ireturn, 1) := kq.at kqdX11_pour_88 16 rfl
theorem dX11_pour_115 : decode cX11_pour 115 = .ok (.iconst 0, 1) := kq.at kqdX11_pour_88 17 rfl
theorem dX11_pour_116 : decode cX11_pour 116 = .ok (.istore 6, 2) := kq.at kqdX11_pour_88 18 rfl
theorem dX11_pour_118 : decode cX11_pour 118 = .ok (.iload 6, 2) := kq.at kqdX11_pour_88 19 rfl
theorem dX11_pour_120 : decode cX11_pour 120 = .ok (.iload 5, 2) := kq.at kqdX11_pour_88 20 rfl
theorem dX11_pour_122 : decode cX11_pour 122 = .ok (.if_icmp .ge 58, 3) := kq.at kqdX11_pour_88 21 rfl
theorem dX11_pour_125 : decode cX11_pour 125 = .ok (.iload_n 2, 1) := kq.at kqdX11_pour_88 22 rfl
theorem dX11_pour_126 : decode cX11_pour 126 = .ok (.iload 4, 2) := kq.at kqdX11_pour_88 23 rfl
theorem kqdX11_pour_128 : kq cX11_pour [(128, .if_icmp .ge 13, 3), (131, .iload 5, 2), (133, .iconst 1, 1), (134, .isub, 1), (135, .iload 6, 2), (137, .isub, 1), (138, .goto 5, 3), (141, .iload 6, 2), (143, .istore 7, 2), (145, .aload_n 0, 1), (146, .getfield 23, 3), (149, .bipush 60, 2), (151, .iload_n 3, 1), (152, .imul, 1), (153, .iload 4, 2), (155, .iadd, 1), (156, .iload 7, 2), (158, .iadd, 1), (159, .aload_n 0, 1), (160, .getfield 23, 3), (163, .bipush 60, 2), (165, .iload_n 1, 1), (166, .imul, 1), (167, .iload_n 2, 1)] = true := by decide +kernel
theorem dX11_pour_128 : decode cX11_pour 128 = .ok (.if_icmp .ge 13, 3) := kq.at kqdX11_pour_128 0 rfl
theorem dX11_pour_131 : decode cX11_pour 131 = .ok (.iload 5, 2) := kq.at kqdX11_pour_128 1 rfl
theorem dX11_pour_133 : decode cX11_pour 133 = .ok (.iconst 1, 1) := kq.at kqdX11_pour_128 2 rfl
theorem dX11_pour_134 : decode cX11_pour 134 = .ok (.isub, 1) := kq.at kqdX11_pour_128 3 rfl
theorem dX11_pour_135 : decode cX11_pour 135 = .ok (.iload 6, 2) := kq.at kqdX11_pour_128 4 rfl
theorem dX11_pour_137 : decode cX11_pour 137 = .ok (.isub, 1) := kq.at kqdX11_pour_128 5 rfl
theorem dX11_pour_138 : decode cX11_pour 138 = .ok (.goto 5, 3) := kq.at kqdX11_pour_128 6 rfl
theorem dX11_pour_141 : decode cX11_pour 141 = .ok (.iload 6, 2) := kq.at kqdX11_pour_128 7 rfl
theorem dX11_pour_143 : decode cX11_pour 143 = .ok (.istore 7, 2) := kq.at kqdX11_pour_128 8 rfl
theorem dX11_pour_145 : decode cX11_pour 145 = .ok (.aload_n 0, 1) := kq.at kqdX11_pour_128 9 rfl
theorem dX11_pour_146 : decode cX11_pour 146 = .ok (.getfield 23, 3) := kq.at kqdX11_pour_128 10 rfl
theorem dX11_pour_149 : decode cX11_pour 149 = .ok (.bipush 60, 2) := kq.at kqdX11_pour_128 11 rfl
theorem dX11_pour_151 : decode cX11_pour 151 = .ok (.iload_n 3, 1) := kq.at kqdX11_pour_128 12 rfl
theorem dX11_pour_152 : decode cX11_pour 152 = .ok (.imul, 1) := kq.at kqdX11_pour_128 13 rfl
theorem dX11_pour_153 : decode cX11_pour 153 = .ok (.iload 4, 2) := kq.at kqdX11_pour_128 14 rfl
theorem dX11_pour_155 : decode cX11_pour 155 = .ok (.iadd, 1) := kq.at kqdX11_pour_128 15 rfl
theorem dX11_pour_156 : decode cX11_pour 156 = .ok (.iload 7, 2) := kq.at kqdX11_pour_128 16 rfl
theorem dX11_pour_158 : decode cX11_pour 158 = .ok (.iadd, 1) := kq.at kqdX11_pour_128 17 rfl
theorem dX11_pour_159 : decode cX11_pour 159 = .ok (.aload_n 0, 1) := kq.at kqdX11_pour_128 18 rfl
theorem dX11_pour_160 : decode cX11_pour 160 = .ok (.getfield 23, 3) := kq.at kqdX11_pour_128 19 rfl
theorem dX11_pour_163 : decode cX11_pour 163 = .ok (.bipush 60, 2) := kq.at kqdX11_pour_128 20 rfl
theorem dX11_pour_165 : decode cX11_pour 165 = .ok (.iload_n 1, 1) := kq.at kqdX11_pour_128 21 rfl
theorem dX11_pour_166 : decode cX11_pour 166 = .ok (.imul, 1) := kq.at kqdX11_pour_128 22 rfl
theorem dX11_pour_167 : decode cX11_pour 167 = .ok (.iload_n 2, 1) := kq.at kqdX11_pour_128 23 rfl
theorem kqdX11_pour_168 : kq cX11_pour [(168, .iadd, 1), (169, .iload 7, 2), (171, .iadd, 1), (172, .laload, 1), (173, .lastore, 1), (174, .iinc 6 1, 3), (177, .goto (-59), 3), (180, .aload_n 0, 1), (181, .iconst 0, 1), (182, .invokevirtual 105, 3), (185, .ireturn, 1)] = true := by decide +kernel
theorem dX11_pour_168 : decode cX11_pour 168 = .ok (.iadd, 1) := kq.at kqdX11_pour_168 0 rfl
theorem dX11_pour_169 : decode cX11_pour 169 = .ok (.iload 7, 2) := kq.at kqdX11_pour_168 1 rfl
theorem dX11_pour_171 : decode cX11_pour 171 = .ok (.iadd, 1) := kq.at kqdX11_pour_168 2 rfl
theorem dX11_pour_172 : decode cX11_pour 172 = .ok (.laload, 1) := kq.at kqdX11_pour_168 3 rfl
theorem dX11_pour_173 : decode cX11_pour 173 = .ok (.lastore, 1) := kq.at kqdX11_pour_168 4 rfl
theorem dX11_pour_174 : decode cX11_pour 174 = .ok (.iinc 6 1, 3) := kq.at kqdX11_pour_168 5 rfl
theorem dX11_pour_177 : decode cX11_pour 177 = .ok (.goto (-59), 3) := kq.at kqdX11_pour_168 6 rfl
theorem dX11_pour_180 : decode cX11_pour 180 = .ok (.aload_n 0, 1) := kq.at kqdX11_pour_168 7 rfl
theorem dX11_pour_181 : decode cX11_pour 181 = .ok (.iconst 0, 1) := kq.at kqdX11_pour_168 8 rfl
theorem dX11_pour_182 : decode cX11_pour 182 = .ok (.invokevirtual 105, 3) := kq.at kqdX11_pour_168 9 rfl
theorem dX11_pour_185 : decode cX11_pour 185 = .ok (.ireturn, 1) := kq.at kqdX11_pour_168 10 rfl
theorem kqdX11_isFrom_0 : kq cX11_isFrom [(0, .lload_n 0, 1), (1, .lload_n 2, 1), (2, .lcmp, 1), (3, .ifCond .lt 14, 3), (6, .lload_n 0, 1), (7, .lload 4, 2), (9, .lcmp, 1), (10, .ifCond .gt 7, 3), (13, .iconst 1, 1), (14, .goto 4, 3), (17, .iconst 0, 1), (18, .ireturn, 1)] = true := by decide +kernel
theorem dX11_isFrom_0 : decode cX11_isFrom 0 = .ok (.lload_n 0, 1) := kq.at kqdX11_isFrom_0 0 rfl
theorem dX11_isFrom_1 : decode cX11_isFrom 1 = .ok (.lload_n 2, 1) := kq.at kqdX11_isFrom_0 1 rfl
theorem dX11_isFrom_2 : decode cX11_isFrom 2 = .ok (.lcmp, 1) := kq.at kqdX11_isFrom_0 2 rfl
theorem dX11_isFrom_3 : decode cX11_isFrom 3 = .ok (.ifCond .lt 14, 3) := kq.at kqdX11_isFrom_0 3 rfl
theorem dX11_isFrom_6 : decode cX11_isFrom 6 = .ok (.lload_n 0, 1) := kq.at kqdX11_isFrom_0 4 rfl
theorem dX11_isFrom_7 : decode cX11_isFrom 7 = .ok (.lload 4, 2) := kq.at kqdX11_isFrom_0 5 rfl
theorem dX11_isFrom_9 : decode cX11_isFrom 9 = .ok (.lcmp, 1) := kq.at kqdX11_isFrom_0 6 rfl
theorem dX11_isFrom_10 : decode cX11_isFrom 10 = .ok (.ifCond .gt 7, 3) := kq.at kqdX11_isFrom_0 7 rfl
theorem dX11_isFrom_13 : decode cX11_isFrom 13 = .ok (.iconst 1, 1) := kq.at kqdX11_isFrom_0 8 rfl
theorem dX11_isFrom_14 : decode cX11_isFrom 14 = .ok (.goto 4, 3) := kq.at kqdX11_isFrom_0 9 rfl
theorem dX11_isFrom_17 : decode cX11_isFrom 17 = .ok (.iconst 0, 1) := kq.at kqdX11_isFrom_0 10 rfl
theorem dX11_isFrom_18 : decode cX11_isFrom 18 = .ok (.ireturn, 1) := kq.at kqdX11_isFrom_0 11 rfl
theorem kqdX11_feed_0 : kq cX11_feed [(0, .aload_n 0, 1), (1, .getfield 122, 3), (4, .bipush 20, 2), (6, .iadd, 1), (7, .sipush 900, 3), (10, .if_icmp .le 5, 3), (13, .iconst (-1), 1), (14, .ireturn, 1), (15, .aload_n 0, 1), (16, .iload_n 1, 1), (17, .invokevirtual 125, 3), (20, .aload_n 0, 1), (21, .iload_n 2, 1), (22, .invokevirtual 125, 3), (25, .aload_n 0, 1), (26, .iload_n 3, 1), (27, .invokevirtual 125, 3), (30, .aload_n 0, 1), (31, .iload 4, 2), (33, .invokevirtual 125, 3), (36, .aload_n 0, 1), (37, .iload 5, 2), (39, .invokevirtual 125, 3), (42, .aload_n 0, 1)] = true := by decide +kernel
theorem dX11_feed_0 : decode cX11_feed 0 = .ok (.aload_n 0, 1) := kq.at kqdX11_feed_0 0 rfl
theorem dX11_feed_1 : decode cX11_feed 1 = .ok (.getfield 122, 3) := kq.at kqdX11_feed_0 1 rfl
theorem dX11_feed_4 : decode cX11_feed 4 = .ok (.bipush 20, 2) := kq.at kqdX11_feed_0 2 rfl
theorem dX11_feed_6 : decode cX11_feed 6 = .ok (.iadd, 1) := kq.at kqdX11_feed_0 3 rfl
theorem dX11_feed_7 : decode cX11_feed 7 = .ok (.sipush 900, 3) := kq.at kqdX11_feed_0 4 rfl
theorem dX11_feed_10 : decode cX11_feed 10 = .ok (.if_icmp .le 5, 3) := kq.at kqdX11_feed_0 5 rfl
theorem dX11_feed_13 : decode cX11_feed 13 = .ok (.iconst (-1), 1) := kq.at kqdX11_feed_0 6 rfl
theorem dX11_feed_14 : decode cX11_feed 14 = .ok (.ireturn, 1) := kq.at kqdX11_feed_0 7 rfl
theorem dX11_feed_15 : decode cX11_feed 15 = .ok (.aload_n 0, 1) := kq.at kqdX11_feed_0 8 rfl
theorem dX11_feed_16 : decode cX11_feed 16 = .ok (.iload_n 1, 1) := kq.at kqdX11_feed_0 9 rfl
theorem dX11_feed_17 : decode cX11_feed 17 = .ok (.invokevirtual 125, 3) := kq.at kqdX11_feed_0 10 rfl
theorem dX11_feed_20 : decode cX11_feed 20 = .ok (.aload_n 0, 1) := kq.at kqdX11_feed_0 11 rfl
theorem dX11_feed_21 : decode cX11_feed 21 = .ok (.iload_n 2, 1) := kq.at kqdX11_feed_0 12 rfl
theorem dX11_feed_22 : decode cX11_feed 22 = .ok (.invokevirtual 125, 3) := kq.at kqdX11_feed_0 13 rfl
theorem dX11_feed_25 : decode cX11_feed 25 = .ok (.aload_n 0, 1) := kq.at kqdX11_feed_0 14 rfl
theorem dX11_feed_26 : decode cX11_feed 26 = .ok (.iload_n 3, 1) := kq.at kqdX11_feed_0 15 rfl
theorem dX11_feed_27 : decode cX11_feed 27 = .ok (.invokevirtual 125, 3) := kq.at kqdX11_feed_0 16 rfl
theorem dX11_feed_30 : decode cX11_feed 30 = .ok (.aload_n 0, 1) := kq.at kqdX11_feed_0 17 rfl
theorem dX11_feed_31 : decode cX11_feed 31 = .ok (.iload 4, 2) := kq.at kqdX11_feed_0 18 rfl
theorem dX11_feed_33 : decode cX11_feed 33 = .ok (.invokevirtual 125, 3) := kq.at kqdX11_feed_0 19 rfl
theorem dX11_feed_36 : decode cX11_feed 36 = .ok (.aload_n 0, 1) := kq.at kqdX11_feed_0 20 rfl
theorem dX11_feed_37 : decode cX11_feed 37 = .ok (.iload 5, 2) := kq.at kqdX11_feed_0 21 rfl
theorem dX11_feed_39 : decode cX11_feed 39 = .ok (.invokevirtual 125, 3) := kq.at kqdX11_feed_0 22 rfl
theorem dX11_feed_42 : decode cX11_feed 42 = .ok (.aload_n 0, 1) := kq.at kqdX11_feed_0 23 rfl
theorem kqdX11_feed_43 : kq cX11_feed [(43, .getfield 122, 3), (46, .ireturn, 1)] = true := by decide +kernel
theorem dX11_feed_43 : decode cX11_feed 43 = .ok (.getfield 122, 3) := kq.at kqdX11_feed_43 0 rfl
theorem dX11_feed_46 : decode cX11_feed 46 = .ok (.ireturn, 1) := kq.at kqdX11_feed_43 1 rfl
theorem kqdX11_four_0 : kq cX11_four [(0, .bipush 24, 2), (2, .istore_n 2, 1), (3, .iload_n 2, 1), (4, .ifCond .lt 32, 3), (7, .aload_n 0, 1), (8, .getfield 27, 3), (11, .aload_n 0, 1), (12, .getfield 122, 3), (15, .iload_n 1, 1), (16, .iload_n 2, 1), (17, .ishr, 1), (18, .i2b, 1), (19, .bastore, 1), (20, .aload_n 0, 1), (21, .dup, 1), (22, .getfield 122, 3), (25, .iconst 1, 1), (26, .iadd, 1), (27, .putfield 122, 3), (30, .iinc 2 (-8), 3), (33, .goto (-30), 3), (36, .return_, 1)] = true := by decide +kernel
theorem dX11_four_0 : decode cX11_four 0 = .ok (.bipush 24, 2) := kq.at kqdX11_four_0 0 rfl
theorem dX11_four_2 : decode cX11_four 2 = .ok (.istore_n 2, 1) := kq.at kqdX11_four_0 1 rfl
theorem dX11_four_3 : decode cX11_four 3 = .ok (.iload_n 2, 1) := kq.at kqdX11_four_0 2 rfl
theorem dX11_four_4 : decode cX11_four 4 = .ok (.ifCond .lt 32, 3) := kq.at kqdX11_four_0 3 rfl
theorem dX11_four_7 : decode cX11_four 7 = .ok (.aload_n 0, 1) := kq.at kqdX11_four_0 4 rfl
theorem dX11_four_8 : decode cX11_four 8 = .ok (.getfield 27, 3) := kq.at kqdX11_four_0 5 rfl
theorem dX11_four_11 : decode cX11_four 11 = .ok (.aload_n 0, 1) := kq.at kqdX11_four_0 6 rfl
theorem dX11_four_12 : decode cX11_four 12 = .ok (.getfield 122, 3) := kq.at kqdX11_four_0 7 rfl
theorem dX11_four_15 : decode cX11_four 15 = .ok (.iload_n 1, 1) := kq.at kqdX11_four_0 8 rfl
theorem dX11_four_16 : decode cX11_four 16 = .ok (.iload_n 2, 1) := kq.at kqdX11_four_0 9 rfl
theorem dX11_four_17 : decode cX11_four 17 = .ok (.ishr, 1) := kq.at kqdX11_four_0 10 rfl
theorem dX11_four_18 : decode cX11_four 18 = .ok (.i2b, 1) := kq.at kqdX11_four_0 11 rfl
theorem dX11_four_19 : decode cX11_four 19 = .ok (.bastore, 1) := kq.at kqdX11_four_0 12 rfl
theorem dX11_four_20 : decode cX11_four 20 = .ok (.aload_n 0, 1) := kq.at kqdX11_four_0 13 rfl
theorem dX11_four_21 : decode cX11_four 21 = .ok (.dup, 1) := kq.at kqdX11_four_0 14 rfl
theorem dX11_four_22 : decode cX11_four 22 = .ok (.getfield 122, 3) := kq.at kqdX11_four_0 15 rfl
theorem dX11_four_25 : decode cX11_four 25 = .ok (.iconst 1, 1) := kq.at kqdX11_four_0 16 rfl
theorem dX11_four_26 : decode cX11_four 26 = .ok (.iadd, 1) := kq.at kqdX11_four_0 17 rfl
theorem dX11_four_27 : decode cX11_four 27 = .ok (.putfield 122, 3) := kq.at kqdX11_four_0 18 rfl
theorem dX11_four_30 : decode cX11_four 30 = .ok (.iinc 2 (-8), 3) := kq.at kqdX11_four_0 19 rfl
theorem dX11_four_33 : decode cX11_four 33 = .ok (.goto (-30), 3) := kq.at kqdX11_four_0 20 rfl
theorem dX11_four_36 : decode cX11_four 36 = .ok (.return_, 1) := kq.at kqdX11_four_0 21 rfl
theorem kqdX11_byteAt_0 : kq cX11_byteAt [(0, .iload_n 1, 1), (1, .aload_n 0, 1), (2, .getfield 128, 3), (5, .if_icmp .ge 16, 3), (8, .aload_n 0, 1), (9, .getfield 31, 3), (12, .iload_n 1, 1), (13, .baload, 1), (14, .sipush 255, 3), (17, .iand, 1), (18, .goto 4, 3), (21, .iconst (-1), 1), (22, .ireturn, 1)] = true := by decide +kernel
theorem dX11_byteAt_0 : decode cX11_byteAt 0 = .ok (.iload_n 1, 1) := kq.at kqdX11_byteAt_0 0 rfl
theorem dX11_byteAt_1 : decode cX11_byteAt 1 = .ok (.aload_n 0, 1) := kq.at kqdX11_byteAt_0 1 rfl
theorem dX11_byteAt_2 : decode cX11_byteAt 2 = .ok (.getfield 128, 3) := kq.at kqdX11_byteAt_0 2 rfl
theorem dX11_byteAt_5 : decode cX11_byteAt 5 = .ok (.if_icmp .ge 16, 3) := kq.at kqdX11_byteAt_0 3 rfl
theorem dX11_byteAt_8 : decode cX11_byteAt 8 = .ok (.aload_n 0, 1) := kq.at kqdX11_byteAt_0 4 rfl
theorem dX11_byteAt_9 : decode cX11_byteAt 9 = .ok (.getfield 31, 3) := kq.at kqdX11_byteAt_0 5 rfl
theorem dX11_byteAt_12 : decode cX11_byteAt 12 = .ok (.iload_n 1, 1) := kq.at kqdX11_byteAt_0 6 rfl
theorem dX11_byteAt_13 : decode cX11_byteAt 13 = .ok (.baload, 1) := kq.at kqdX11_byteAt_0 7 rfl
theorem dX11_byteAt_14 : decode cX11_byteAt 14 = .ok (.sipush 255, 3) := kq.at kqdX11_byteAt_0 8 rfl
theorem dX11_byteAt_17 : decode cX11_byteAt 17 = .ok (.iand, 1) := kq.at kqdX11_byteAt_0 9 rfl
theorem dX11_byteAt_18 : decode cX11_byteAt 18 = .ok (.goto 4, 3) := kq.at kqdX11_byteAt_0 10 rfl
theorem dX11_byteAt_21 : decode cX11_byteAt 21 = .ok (.iconst (-1), 1) := kq.at kqdX11_byteAt_0 11 rfl
theorem dX11_byteAt_22 : decode cX11_byteAt 22 = .ok (.ireturn, 1) := kq.at kqdX11_byteAt_0 12 rfl
theorem kqdX11_isSmall_0 : kq cX11_isSmall [(0, .iload_n 0, 1), (1, .bipush 97, 2), (3, .if_icmp .lt 13, 3), (6, .iload_n 0, 1), (7, .bipush 122, 2), (9, .if_icmp .gt 7, 3), (12, .iconst 1, 1), (13, .goto 4, 3), (16, .iconst 0, 1), (17, .ireturn, 1)] = true := by decide +kernel
theorem dX11_isSmall_0 : decode cX11_isSmall 0 = .ok (.iload_n 0, 1) := kq.at kqdX11_isSmall_0 0 rfl
theorem dX11_isSmall_1 : decode cX11_isSmall 1 = .ok (.bipush 97, 2) := kq.at kqdX11_isSmall_0 1 rfl
theorem dX11_isSmall_3 : decode cX11_isSmall 3 = .ok (.if_icmp .lt 13, 3) := kq.at kqdX11_isSmall_0 2 rfl
theorem dX11_isSmall_6 : decode cX11_isSmall 6 = .ok (.iload_n 0, 1) := kq.at kqdX11_isSmall_0 3 rfl
theorem dX11_isSmall_7 : decode cX11_isSmall 7 = .ok (.bipush 122, 2) := kq.at kqdX11_isSmall_0 4 rfl
theorem dX11_isSmall_9 : decode cX11_isSmall 9 = .ok (.if_icmp .gt 7, 3) := kq.at kqdX11_isSmall_0 5 rfl
theorem dX11_isSmall_12 : decode cX11_isSmall 12 = .ok (.iconst 1, 1) := kq.at kqdX11_isSmall_0 6 rfl
theorem dX11_isSmall_13 : decode cX11_isSmall 13 = .ok (.goto 4, 3) := kq.at kqdX11_isSmall_0 7 rfl
theorem dX11_isSmall_16 : decode cX11_isSmall 16 = .ok (.iconst 0, 1) := kq.at kqdX11_isSmall_0 8 rfl
theorem dX11_isSmall_17 : decode cX11_isSmall 17 = .ok (.ireturn, 1) := kq.at kqdX11_isSmall_0 9 rfl
theorem kqdX11_isDigit_0 : kq cX11_isDigit [(0, .iload_n 0, 1), (1, .bipush 48, 2), (3, .if_icmp .lt 13, 3), (6, .iload_n 0, 1), (7, .bipush 57, 2), (9, .if_icmp .gt 7, 3), (12, .iconst 1, 1), (13, .goto 4, 3), (16, .iconst 0, 1), (17, .ireturn, 1)] = true := by decide +kernel
theorem dX11_isDigit_0 : decode cX11_isDigit 0 = .ok (.iload_n 0, 1) := kq.at kqdX11_isDigit_0 0 rfl
theorem dX11_isDigit_1 : decode cX11_isDigit 1 = .ok (.bipush 48, 2) := kq.at kqdX11_isDigit_0 1 rfl
theorem dX11_isDigit_3 : decode cX11_isDigit 3 = .ok (.if_icmp .lt 13, 3) := kq.at kqdX11_isDigit_0 2 rfl
theorem dX11_isDigit_6 : decode cX11_isDigit 6 = .ok (.iload_n 0, 1) := kq.at kqdX11_isDigit_0 3 rfl
theorem dX11_isDigit_7 : decode cX11_isDigit 7 = .ok (.bipush 57, 2) := kq.at kqdX11_isDigit_0 4 rfl
theorem dX11_isDigit_9 : decode cX11_isDigit 9 = .ok (.if_icmp .gt 7, 3) := kq.at kqdX11_isDigit_0 5 rfl
theorem dX11_isDigit_12 : decode cX11_isDigit 12 = .ok (.iconst 1, 1) := kq.at kqdX11_isDigit_0 6 rfl
theorem dX11_isDigit_13 : decode cX11_isDigit 13 = .ok (.goto 4, 3) := kq.at kqdX11_isDigit_0 7 rfl
theorem dX11_isDigit_16 : decode cX11_isDigit 16 = .ok (.iconst 0, 1) := kq.at kqdX11_isDigit_0 8 rfl
theorem dX11_isDigit_17 : decode cX11_isDigit 17 = .ok (.ireturn, 1) := kq.at kqdX11_isDigit_0 9 rfl
theorem kqdX11_ahead_0 : kq cX11_ahead [(0, .aload_n 0, 1), (1, .aload_n 0, 1), (2, .getfield 131, 3), (5, .invokevirtual 134, 3), (8, .bipush 32, 2), (10, .if_icmp .eq 16, 3), (13, .aload_n 0, 1), (14, .aload_n 0, 1), (15, .getfield 131, 3), (18, .invokevirtual 134, 3), (21, .bipush 10, 2), (23, .if_icmp .ne 16, 3), (26, .aload_n 0, 1), (27, .dup, 1), (28, .getfield 131, 3), (31, .iconst 1, 1), (32, .iadd, 1), (33, .putfield 131, 3), (36, .goto (-36), 3), (39, .aload_n 0, 1), (40, .aload_n 0, 1), (41, .getfield 131, 3), (44, .putfield 138, 3), (47, .aload_n 0, 1)] = true := by decide +kernel
theorem dX11_ahead_0 : decode cX11_ahead 0 = .ok (.aload_n 0, 1) := kq.at kqdX11_ahead_0 0 rfl
theorem dX11_ahead_1 : decode cX11_ahead 1 = .ok (.aload_n 0, 1) := kq.at kqdX11_ahead_0 1 rfl
theorem dX11_ahead_2 : decode cX11_ahead 2 = .ok (.getfield 131, 3) := kq.at kqdX11_ahead_0 2 rfl
theorem dX11_ahead_5 : decode cX11_ahead 5 = .ok (.invokevirtual 134, 3) := kq.at kqdX11_ahead_0 3 rfl
theorem dX11_ahead_8 : decode cX11_ahead 8 = .ok (.bipush 32, 2) := kq.at kqdX11_ahead_0 4 rfl
theorem dX11_ahead_10 : decode cX11_ahead 10 = .ok (.if_icmp .eq 16, 3) := kq.at kqdX11_ahead_0 5 rfl
theorem dX11_ahead_13 : decode cX11_ahead 13 = .ok (.aload_n 0, 1) := kq.at kqdX11_ahead_0 6 rfl
theorem dX11_ahead_14 : decode cX11_ahead 14 = .ok (.aload_n 0, 1) := kq.at kqdX11_ahead_0 7 rfl
theorem dX11_ahead_15 : decode cX11_ahead 15 = .ok (.getfield 131, 3) := kq.at kqdX11_ahead_0 8 rfl
theorem dX11_ahead_18 : decode cX11_ahead 18 = .ok (.invokevirtual 134, 3) := kq.at kqdX11_ahead_0 9 rfl
theorem dX11_ahead_21 : decode cX11_ahead 21 = .ok (.bipush 10, 2) := kq.at kqdX11_ahead_0 10 rfl
theorem dX11_ahead_23 : decode cX11_ahead 23 = .ok (.if_icmp .ne 16, 3) := kq.at kqdX11_ahead_0 11 rfl
theorem dX11_ahead_26 : decode cX11_ahead 26 = .ok (.aload_n 0, 1) := kq.at kqdX11_ahead_0 12 rfl
theorem dX11_ahead_27 : decode cX11_ahead 27 = .ok (.dup, 1) := kq.at kqdX11_ahead_0 13 rfl
theorem dX11_ahead_28 : decode cX11_ahead 28 = .ok (.getfield 131, 3) := kq.at kqdX11_ahead_0 14 rfl
theorem dX11_ahead_31 : decode cX11_ahead 31 = .ok (.iconst 1, 1) := kq.at kqdX11_ahead_0 15 rfl
theorem dX11_ahead_32 : decode cX11_ahead 32 = .ok (.iadd, 1) := kq.at kqdX11_ahead_0 16 rfl
theorem dX11_ahead_33 : decode cX11_ahead 33 = .ok (.putfield 131, 3) := kq.at kqdX11_ahead_0 17 rfl
theorem dX11_ahead_36 : decode cX11_ahead 36 = .ok (.goto (-36), 3) := kq.at kqdX11_ahead_0 18 rfl
theorem dX11_ahead_39 : decode cX11_ahead 39 = .ok (.aload_n 0, 1) := kq.at kqdX11_ahead_0 19 rfl
theorem dX11_ahead_40 : decode cX11_ahead 40 = .ok (.aload_n 0, 1) := kq.at kqdX11_ahead_0 20 rfl
theorem dX11_ahead_41 : decode cX11_ahead 41 = .ok (.getfield 131, 3) := kq.at kqdX11_ahead_0 21 rfl
theorem dX11_ahead_44 : decode cX11_ahead 44 = .ok (.putfield 138, 3) := kq.at kqdX11_ahead_0 22 rfl
theorem dX11_ahead_47 : decode cX11_ahead 47 = .ok (.aload_n 0, 1) := kq.at kqdX11_ahead_0 23 rfl
theorem kqdX11_ahead_48 : kq cX11_ahead [(48, .aload_n 0, 1), (49, .getfield 131, 3), (52, .invokevirtual 134, 3), (55, .istore_n 1, 1), (56, .aload_n 0, 1), (57, .iload_n 1, 1), (58, .putfield 141, 3), (61, .iload_n 1, 1), (62, .iconst (-1), 1), (63, .if_icmp .ne 11, 3), (66, .aload_n 0, 1), (67, .iconst 0, 1), (68, .putfield 144, 3), (71, .goto 162, 3), (74, .iload_n 1, 1), (75, .invokestatic 147, 3), (78, .ifCond .eq 38, 3), (81, .aload_n 0, 1), (82, .aload_n 0, 1), (83, .getfield 131, 3), (86, .invokevirtual 134, 3), (89, .invokestatic 147, 3), (92, .ifCond .eq 16, 3), (95, .aload_n 0, 1)] = true := by decide +kernel
theorem dX11_ahead_48 : decode cX11_ahead 48 = .ok (.aload_n 0, 1) := kq.at kqdX11_ahead_48 0 rfl
theorem dX11_ahead_49 : decode cX11_ahead 49 = .ok (.getfield 131, 3) := kq.at kqdX11_ahead_48 1 rfl
theorem dX11_ahead_52 : decode cX11_ahead 52 = .ok (.invokevirtual 134, 3) := kq.at kqdX11_ahead_48 2 rfl
theorem dX11_ahead_55 : decode cX11_ahead 55 = .ok (.istore_n 1, 1) := kq.at kqdX11_ahead_48 3 rfl
theorem dX11_ahead_56 : decode cX11_ahead 56 = .ok (.aload_n 0, 1) := kq.at kqdX11_ahead_48 4 rfl
theorem dX11_ahead_57 : decode cX11_ahead 57 = .ok (.iload_n 1, 1) := kq.at kqdX11_ahead_48 5 rfl
theorem dX11_ahead_58 : decode cX11_ahead 58 = .ok (.putfield 141, 3) := kq.at kqdX11_ahead_48 6 rfl
theorem dX11_ahead_61 : decode cX11_ahead 61 = .ok (.iload_n 1, 1) := kq.at kqdX11_ahead_48 7 rfl
theorem dX11_ahead_62 : decode cX11_ahead 62 = .ok (.iconst (-1), 1) := kq.at kqdX11_ahead_48 8 rfl
theorem dX11_ahead_63 : decode cX11_ahead 63 = .ok (.if_icmp .ne 11, 3) := kq.at kqdX11_ahead_48 9 rfl
theorem dX11_ahead_66 : decode cX11_ahead 66 = .ok (.aload_n 0, 1) := kq.at kqdX11_ahead_48 10 rfl
theorem dX11_ahead_67 : decode cX11_ahead 67 = .ok (.iconst 0, 1) := kq.at kqdX11_ahead_48 11 rfl
theorem dX11_ahead_68 : decode cX11_ahead 68 = .ok (.putfield 144, 3) := kq.at kqdX11_ahead_48 12 rfl
theorem dX11_ahead_71 : decode cX11_ahead 71 = .ok (.goto 162, 3) := kq.at kqdX11_ahead_48 13 rfl
theorem dX11_ahead_74 : decode cX11_ahead 74 = .ok (.iload_n 1, 1) := kq.at kqdX11_ahead_48 14 rfl
theorem dX11_ahead_75 : decode cX11_ahead 75 = .ok (.invokestatic 147, 3) := kq.at kqdX11_ahead_48 15 rfl
theorem dX11_ahead_78 : decode cX11_ahead 78 = .ok (.ifCond .eq 38, 3) := kq.at kqdX11_ahead_48 16 rfl
theorem dX11_ahead_81 : decode cX11_ahead 81 = .ok (.aload_n 0, 1) := kq.at kqdX11_ahead_48 17 rfl
theorem dX11_ahead_82 : decode cX11_ahead 82 = .ok (.aload_n 0, 1) := kq.at kqdX11_ahead_48 18 rfl
theorem dX11_ahead_83 : decode cX11_ahead 83 = .ok (.getfield 131, 3) := kq.at kqdX11_ahead_48 19 rfl
theorem dX11_ahead_86 : decode cX11_ahead 86 = .ok (.invokevirtual 134, 3) := kq.at kqdX11_ahead_48 20 rfl
theorem dX11_ahead_89 : decode cX11_ahead 89 = .ok (.invokestatic 147, 3) := kq.at kqdX11_ahead_48 21 rfl
theorem dX11_ahead_92 : decode cX11_ahead 92 = .ok (.ifCond .eq 16, 3) := kq.at kqdX11_ahead_48 22 rfl
theorem dX11_ahead_95 : decode cX11_ahead 95 = .ok (.aload_n 0, 1) := kq.at kqdX11_ahead_48 23 rfl
theorem kqdX11_ahead_96 : kq cX11_ahead [(96, .dup, 1), (97, .getfield 131, 3), (100, .iconst 1, 1), (101, .iadd, 1), (102, .putfield 131, 3), (105, .goto (-24), 3), (108, .aload_n 0, 1), (109, .iconst 2, 1), (110, .putfield 144, 3), (113, .goto 120, 3), (116, .iload_n 1, 1), (117, .invokestatic 150, 3), (120, .ifCond .eq 88, 3), (123, .aload_n 0, 1), (124, .iconst 0, 1), (125, .putfield 141, 3), (128, .aload_n 0, 1), (129, .aload_n 0, 1), (130, .getfield 131, 3), (133, .invokevirtual 134, 3), (136, .invokestatic 150, 3), (139, .ifCond .eq 44, 3), (142, .aload_n 0, 1), (143, .ldc 153, 2)] = true := by decide +kernel
theorem dX11_ahead_96 : decode cX11_ahead 96 = .ok (.dup, 1) := kq.at kqdX11_ahead_96 0 rfl
theorem dX11_ahead_97 : decode cX11_ahead 97 = .ok (.getfield 131, 3) := kq.at kqdX11_ahead_96 1 rfl
theorem dX11_ahead_100 : decode cX11_ahead 100 = .ok (.iconst 1, 1) := kq.at kqdX11_ahead_96 2 rfl
theorem dX11_ahead_101 : decode cX11_ahead 101 = .ok (.iadd, 1) := kq.at kqdX11_ahead_96 3 rfl
theorem dX11_ahead_102 : decode cX11_ahead 102 = .ok (.putfield 131, 3) := kq.at kqdX11_ahead_96 4 rfl
theorem dX11_ahead_105 : decode cX11_ahead 105 = .ok (.goto (-24), 3) := kq.at kqdX11_ahead_96 5 rfl
theorem dX11_ahead_108 : decode cX11_ahead 108 = .ok (.aload_n 0, 1) := kq.at kqdX11_ahead_96 6 rfl
theorem dX11_ahead_109 : decode cX11_ahead 109 = .ok (.iconst 2, 1) := kq.at kqdX11_ahead_96 7 rfl
theorem dX11_ahead_110 : decode cX11_ahead 110 = .ok (.putfield 144, 3) := kq.at kqdX11_ahead_96 8 rfl
theorem dX11_ahead_113 : decode cX11_ahead 113 = .ok (.goto 120, 3) := kq.at kqdX11_ahead_96 9 rfl
theorem dX11_ahead_116 : decode cX11_ahead 116 = .ok (.iload_n 1, 1) := kq.at kqdX11_ahead_96 10 rfl
theorem dX11_ahead_117 : decode cX11_ahead 117 = .ok (.invokestatic 150, 3) := kq.at kqdX11_ahead_96 11 rfl
theorem dX11_ahead_120 : decode cX11_ahead 120 = .ok (.ifCond .eq 88, 3) := kq.at kqdX11_ahead_96 12 rfl
theorem dX11_ahead_123 : decode cX11_ahead 123 = .ok (.aload_n 0, 1) := kq.at kqdX11_ahead_96 13 rfl
theorem dX11_ahead_124 : decode cX11_ahead 124 = .ok (.iconst 0, 1) := kq.at kqdX11_ahead_96 14 rfl
theorem dX11_ahead_125 : decode cX11_ahead 125 = .ok (.putfield 141, 3) := kq.at kqdX11_ahead_96 15 rfl
theorem dX11_ahead_128 : decode cX11_ahead 128 = .ok (.aload_n 0, 1) := kq.at kqdX11_ahead_96 16 rfl
theorem dX11_ahead_129 : decode cX11_ahead 129 = .ok (.aload_n 0, 1) := kq.at kqdX11_ahead_96 17 rfl
theorem dX11_ahead_130 : decode cX11_ahead 130 = .ok (.getfield 131, 3) := kq.at kqdX11_ahead_96 18 rfl
theorem dX11_ahead_133 : decode cX11_ahead 133 = .ok (.invokevirtual 134, 3) := kq.at kqdX11_ahead_96 19 rfl
theorem dX11_ahead_136 : decode cX11_ahead 136 = .ok (.invokestatic 150, 3) := kq.at kqdX11_ahead_96 20 rfl
theorem dX11_ahead_139 : decode cX11_ahead 139 = .ok (.ifCond .eq 44, 3) := kq.at kqdX11_ahead_96 21 rfl
theorem dX11_ahead_142 : decode cX11_ahead 142 = .ok (.aload_n 0, 1) := kq.at kqdX11_ahead_96 22 rfl
theorem dX11_ahead_143 : decode cX11_ahead 143 = .ok (.ldc 153, 2) := kq.at kqdX11_ahead_96 23 rfl
theorem kqdX11_ahead_145 : kq cX11_ahead [(145, .bipush 10, 2), (147, .aload_n 0, 1), (148, .getfield 141, 3), (151, .imul, 1), (152, .aload_n 0, 1), (153, .aload_n 0, 1), (154, .getfield 131, 3), (157, .invokevirtual 134, 3), (160, .iadd, 1), (161, .bipush 48, 2), (163, .isub, 1), (164, .invokestatic 154, 3), (167, .putfield 141, 3), (170, .aload_n 0, 1), (171, .dup, 1), (172, .getfield 131, 3), (175, .iconst 1, 1), (176, .iadd, 1), (177, .putfield 131, 3), (180, .goto (-52), 3), (183, .aload_n 0, 1), (184, .aload_n 0, 1), (185, .getfield 131, 3), (188, .aload_n 0, 1)] = true := by decide +kernel
theorem dX11_ahead_145 : decode cX11_ahead 145 = .ok (.bipush 10, 2) := kq.at kqdX11_ahead_145 0 rfl
theorem dX11_ahead_147 : decode cX11_ahead 147 = .ok (.aload_n 0, 1) := kq.at kqdX11_ahead_145 1 rfl
theorem dX11_ahead_148 : decode cX11_ahead 148 = .ok (.getfield 141, 3) := kq.at kqdX11_ahead_145 2 rfl
theorem dX11_ahead_151 : decode cX11_ahead 151 = .ok (.imul, 1) := kq.at kqdX11_ahead_145 3 rfl
theorem dX11_ahead_152 : decode cX11_ahead 152 = .ok (.aload_n 0, 1) := kq.at kqdX11_ahead_145 4 rfl
theorem dX11_ahead_153 : decode cX11_ahead 153 = .ok (.aload_n 0, 1) := kq.at kqdX11_ahead_145 5 rfl
theorem dX11_ahead_154 : decode cX11_ahead 154 = .ok (.getfield 131, 3) := kq.at kqdX11_ahead_145 6 rfl
theorem dX11_ahead_157 : decode cX11_ahead 157 = .ok (.invokevirtual 134, 3) := kq.at kqdX11_ahead_145 7 rfl
theorem dX11_ahead_160 : decode cX11_ahead 160 = .ok (.iadd, 1) := kq.at kqdX11_ahead_145 8 rfl
theorem dX11_ahead_161 : decode cX11_ahead 161 = .ok (.bipush 48, 2) := kq.at kqdX11_ahead_145 9 rfl
theorem dX11_ahead_163 : decode cX11_ahead 163 = .ok (.isub, 1) := kq.at kqdX11_ahead_145 10 rfl
theorem dX11_ahead_164 : decode cX11_ahead 164 = .ok (.invokestatic 154, 3) := kq.at kqdX11_ahead_145 11 rfl
theorem dX11_ahead_167 : decode cX11_ahead 167 = .ok (.putfield 141, 3) := kq.at kqdX11_ahead_145 12 rfl
theorem dX11_ahead_170 : decode cX11_ahead 170 = .ok (.aload_n 0, 1) := kq.at kqdX11_ahead_145 13 rfl
theorem dX11_ahead_171 : decode cX11_ahead 171 = .ok (.dup, 1) := kq.at kqdX11_ahead_145 14 rfl
theorem dX11_ahead_172 : decode cX11_ahead 172 = .ok (.getfield 131, 3) := kq.at kqdX11_ahead_145 15 rfl
theorem dX11_ahead_175 : decode cX11_ahead 175 = .ok (.iconst 1, 1) := kq.at kqdX11_ahead_145 16 rfl
theorem dX11_ahead_176 : decode cX11_ahead 176 = .ok (.iadd, 1) := kq.at kqdX11_ahead_145 17 rfl
theorem dX11_ahead_177 : decode cX11_ahead 177 = .ok (.putfield 131, 3) := kq.at kqdX11_ahead_145 18 rfl
theorem dX11_ahead_180 : decode cX11_ahead 180 = .ok (.goto (-52), 3) := kq.at kqdX11_ahead_145 19 rfl
theorem dX11_ahead_183 : decode cX11_ahead 183 = .ok (.aload_n 0, 1) := kq.at kqdX11_ahead_145 20 rfl
theorem dX11_ahead_184 : decode cX11_ahead 184 = .ok (.aload_n 0, 1) := kq.at kqdX11_ahead_145 21 rfl
theorem dX11_ahead_185 : decode cX11_ahead 185 = .ok (.getfield 131, 3) := kq.at kqdX11_ahead_145 22 rfl
theorem dX11_ahead_188 : decode cX11_ahead 188 = .ok (.aload_n 0, 1) := kq.at kqdX11_ahead_145 23 rfl
theorem kqdX11_ahead_189 : kq cX11_ahead [(189, .getfield 138, 3), (192, .isub, 1), (193, .iconst 4, 1), (194, .if_icmp .le 7, 3), (197, .iconst 1, 1), (198, .goto 4, 3), (201, .iconst 3, 1), (202, .putfield 144, 3), (205, .goto 28, 3), (208, .aload_n 0, 1), (209, .dup, 1), (210, .getfield 131, 3), (213, .iconst 1, 1), (214, .iadd, 1), (215, .putfield 131, 3), (218, .aload_n 0, 1), (219, .iload_n 1, 1), (220, .bipush 59, 2), (222, .if_icmp .ne 7, 3), (225, .iconst 4, 1), (226, .goto 4, 3), (229, .iconst 1, 1), (230, .putfield 144, 3), (233, .return_, 1)] = true := by decide +kernel
theorem dX11_ahead_189 : decode cX11_ahead 189 = .ok (.getfield 138, 3) := kq.at kqdX11_ahead_189 0 rfl
theorem dX11_ahead_192 : decode cX11_ahead 192 = .ok (.isub, 1) := kq.at kqdX11_ahead_189 1 rfl
theorem dX11_ahead_193 : decode cX11_ahead 193 = .ok (.iconst 4, 1) := kq.at kqdX11_ahead_189 2 rfl
theorem dX11_ahead_194 : decode cX11_ahead 194 = .ok (.if_icmp .le 7, 3) := kq.at kqdX11_ahead_189 3 rfl
theorem dX11_ahead_197 : decode cX11_ahead 197 = .ok (.iconst 1, 1) := kq.at kqdX11_ahead_189 4 rfl
theorem dX11_ahead_198 : decode cX11_ahead 198 = .ok (.goto 4, 3) := kq.at kqdX11_ahead_189 5 rfl
theorem dX11_ahead_201 : decode cX11_ahead 201 = .ok (.iconst 3, 1) := kq.at kqdX11_ahead_189 6 rfl
theorem dX11_ahead_202 : decode cX11_ahead 202 = .ok (.putfield 144, 3) := kq.at kqdX11_ahead_189 7 rfl
theorem dX11_ahead_205 : decode cX11_ahead 205 = .ok (.goto 28, 3) := kq.at kqdX11_ahead_189 8 rfl
theorem dX11_ahead_208 : decode cX11_ahead 208 = .ok (.aload_n 0, 1) := kq.at kqdX11_ahead_189 9 rfl
theorem dX11_ahead_209 : decode cX11_ahead 209 = .ok (.dup, 1) := kq.at kqdX11_ahead_189 10 rfl
theorem dX11_ahead_210 : decode cX11_ahead 210 = .ok (.getfield 131, 3) := kq.at kqdX11_ahead_189 11 rfl
theorem dX11_ahead_213 : decode cX11_ahead 213 = .ok (.iconst 1, 1) := kq.at kqdX11_ahead_189 12 rfl
theorem dX11_ahead_214 : decode cX11_ahead 214 = .ok (.iadd, 1) := kq.at kqdX11_ahead_189 13 rfl
theorem dX11_ahead_215 : decode cX11_ahead 215 = .ok (.putfield 131, 3) := kq.at kqdX11_ahead_189 14 rfl
theorem dX11_ahead_218 : decode cX11_ahead 218 = .ok (.aload_n 0, 1) := kq.at kqdX11_ahead_189 15 rfl
theorem dX11_ahead_219 : decode cX11_ahead 219 = .ok (.iload_n 1, 1) := kq.at kqdX11_ahead_189 16 rfl
theorem dX11_ahead_220 : decode cX11_ahead 220 = .ok (.bipush 59, 2) := kq.at kqdX11_ahead_189 17 rfl
theorem dX11_ahead_222 : decode cX11_ahead 222 = .ok (.if_icmp .ne 7, 3) := kq.at kqdX11_ahead_189 18 rfl
theorem dX11_ahead_225 : decode cX11_ahead 225 = .ok (.iconst 4, 1) := kq.at kqdX11_ahead_189 19 rfl
theorem dX11_ahead_226 : decode cX11_ahead 226 = .ok (.goto 4, 3) := kq.at kqdX11_ahead_189 20 rfl
theorem dX11_ahead_229 : decode cX11_ahead 229 = .ok (.iconst 1, 1) := kq.at kqdX11_ahead_189 21 rfl
theorem dX11_ahead_230 : decode cX11_ahead 230 = .ok (.putfield 144, 3) := kq.at kqdX11_ahead_189 22 rfl
theorem dX11_ahead_233 : decode cX11_ahead 233 = .ok (.return_, 1) := kq.at kqdX11_ahead_189 23 rfl
theorem kqdX11_isSign_0 : kq cX11_isSign [(0, .aload_n 0, 1), (1, .getfield 144, 3), (4, .iconst 4, 1), (5, .if_icmp .ne 15, 3), (8, .aload_n 0, 1), (9, .getfield 141, 3), (12, .iload_n 1, 1), (13, .if_icmp .ne 7, 3), (16, .iconst 1, 1), (17, .goto 4, 3), (20, .iconst 0, 1), (21, .ireturn, 1)] = true := by decide +kernel
theorem dX11_isSign_0 : decode cX11_isSign 0 = .ok (.aload_n 0, 1) := kq.at kqdX11_isSign_0 0 rfl
theorem dX11_isSign_1 : decode cX11_isSign 1 = .ok (.getfield 144, 3) := kq.at kqdX11_isSign_0 1 rfl
theorem dX11_isSign_4 : decode cX11_isSign 4 = .ok (.iconst 4, 1) := kq.at kqdX11_isSign_0 2 rfl
theorem dX11_isSign_5 : decode cX11_isSign 5 = .ok (.if_icmp .ne 15, 3) := kq.at kqdX11_isSign_0 3 rfl
theorem dX11_isSign_8 : decode cX11_isSign 8 = .ok (.aload_n 0, 1) := kq.at kqdX11_isSign_0 4 rfl
theorem dX11_isSign_9 : decode cX11_isSign 9 = .ok (.getfield 141, 3) := kq.at kqdX11_isSign_0 5 rfl
theorem dX11_isSign_12 : decode cX11_isSign 12 = .ok (.iload_n 1, 1) := kq.at kqdX11_isSign_0 6 rfl
theorem dX11_isSign_13 : decode cX11_isSign 13 = .ok (.if_icmp .ne 7, 3) := kq.at kqdX11_isSign_0 7 rfl
theorem dX11_isSign_16 : decode cX11_isSign 16 = .ok (.iconst 1, 1) := kq.at kqdX11_isSign_0 8 rfl
theorem dX11_isSign_17 : decode cX11_isSign 17 = .ok (.goto 4, 3) := kq.at kqdX11_isSign_0 9 rfl
theorem dX11_isSign_20 : decode cX11_isSign 20 = .ok (.iconst 0, 1) := kq.at kqdX11_isSign_0 10 rfl
theorem dX11_isSign_21 : decode cX11_isSign 21 = .ok (.ireturn, 1) := kq.at kqdX11_isSign_0 11 rfl
theorem kqdX11_inWords_0 : kq cX11_inWords [(0, .aload_n 0, 1), (1, .getfield 144, 3), (4, .iconst 2, 1), (5, .if_icmp .eq 5, 3), (8, .iconst (-1), 1), (9, .ireturn, 1), (10, .iconst 0, 1), (11, .istore_n 2, 1), (12, .iconst 1, 1), (13, .istore_n 3, 1), (14, .iload_n 3, 1), (15, .aload_n 1, 1), (16, .invokevirtual 159, 3), (19, .if_icmp .ge 114, 3), (22, .iload_n 3, 1), (23, .istore 4, 2), (25, .aload_n 1, 1), (26, .iload 4, 2), (28, .invokevirtual 165, 3), (31, .bipush 32, 2), (33, .if_icmp .eq 9, 3), (36, .iinc 4 1, 3), (39, .goto (-14), 3), (42, .iload 4, 2)] = true := by decide +kernel
theorem dX11_inWords_0 : decode cX11_inWords 0 = .ok (.aload_n 0, 1) := kq.at kqdX11_inWords_0 0 rfl
theorem dX11_inWords_1 : decode cX11_inWords 1 = .ok (.getfield 144, 3) := kq.at kqdX11_inWords_0 1 rfl
theorem dX11_inWords_4 : decode cX11_inWords 4 = .ok (.iconst 2, 1) := kq.at kqdX11_inWords_0 2 rfl
theorem dX11_inWords_5 : decode cX11_inWords 5 = .ok (.if_icmp .eq 5, 3) := kq.at kqdX11_inWords_0 3 rfl
theorem dX11_inWords_8 : decode cX11_inWords 8 = .ok (.iconst (-1), 1) := kq.at kqdX11_inWords_0 4 rfl
theorem dX11_inWords_9 : decode cX11_inWords 9 = .ok (.ireturn, 1) := kq.at kqdX11_inWords_0 5 rfl
theorem dX11_inWords_10 : decode cX11_inWords 10 = .ok (.iconst 0, 1) := kq.at kqdX11_inWords_0 6 rfl
theorem dX11_inWords_11 : decode cX11_inWords 11 = .ok (.istore_n 2, 1) := kq.at kqdX11_inWords_0 7 rfl
theorem dX11_inWords_12 : decode cX11_inWords 12 = .ok (.iconst 1, 1) := kq.at kqdX11_inWords_0 8 rfl
theorem dX11_inWords_13 : decode cX11_inWords 13 = .ok (.istore_n 3, 1) := kq.at kqdX11_inWords_0 9 rfl
theorem dX11_inWords_14 : decode cX11_inWords 14 = .ok (.iload_n 3, 1) := kq.at kqdX11_inWords_0 10 rfl
theorem dX11_inWords_15 : decode cX11_inWords 15 = .ok (.aload_n 1, 1) := kq.at kqdX11_inWords_0 11 rfl
theorem dX11_inWords_16 : decode cX11_inWords 16 = .ok (.invokevirtual 159, 3) := kq.at kqdX11_inWords_0 12 rfl
theorem dX11_inWords_19 : decode cX11_inWords 19 = .ok (.if_icmp .ge 114, 3) := kq.at kqdX11_inWords_0 13 rfl
theorem dX11_inWords_22 : decode cX11_inWords 22 = .ok (.iload_n 3, 1) := kq.at kqdX11_inWords_0 14 rfl
theorem dX11_inWords_23 : decode cX11_inWords 23 = .ok (.istore 4, 2) := kq.at kqdX11_inWords_0 15 rfl
theorem dX11_inWords_25 : decode cX11_inWords 25 = .ok (.aload_n 1, 1) := kq.at kqdX11_inWords_0 16 rfl
theorem dX11_inWords_26 : decode cX11_inWords 26 = .ok (.iload 4, 2) := kq.at kqdX11_inWords_0 17 rfl
theorem dX11_inWords_28 : decode cX11_inWords 28 = .ok (.invokevirtual 165, 3) := kq.at kqdX11_inWords_0 18 rfl
theorem dX11_inWords_31 : decode cX11_inWords 31 = .ok (.bipush 32, 2) := kq.at kqdX11_inWords_0 19 rfl
theorem dX11_inWords_33 : decode cX11_inWords 33 = .ok (.if_icmp .eq 9, 3) := kq.at kqdX11_inWords_0 20 rfl
theorem dX11_inWords_36 : decode cX11_inWords 36 = .ok (.iinc 4 1, 3) := kq.at kqdX11_inWords_0 21 rfl
theorem dX11_inWords_39 : decode cX11_inWords 39 = .ok (.goto (-14), 3) := kq.at kqdX11_inWords_0 22 rfl
theorem dX11_inWords_42 : decode cX11_inWords 42 = .ok (.iload 4, 2) := kq.at kqdX11_inWords_0 23 rfl
theorem kqdX11_inWords_44 : kq cX11_inWords [(44, .iload_n 3, 1), (45, .isub, 1), (46, .aload_n 0, 1), (47, .getfield 131, 3), (50, .aload_n 0, 1), (51, .getfield 138, 3), (54, .isub, 1), (55, .if_icmp .ne 7, 3), (58, .iconst 1, 1), (59, .goto 4, 3), (62, .iconst 0, 1), (63, .istore 5, 2), (65, .iload_n 3, 1), (66, .istore 6, 2), (68, .iload 6, 2), (70, .iload 4, 2), (72, .if_icmp .ge 43, 3), (75, .iload 5, 2), (77, .ifCond .eq 38, 3), (80, .aload_n 1, 1), (81, .iload 6, 2), (83, .invokevirtual 165, 3), (86, .aload_n 0, 1), (87, .aload_n 0, 1)] = true := by decide +kernel
theorem dX11_inWords_44 : decode cX11_inWords 44 = .ok (.iload_n 3, 1) := kq.at kqdX11_inWords_44 0 rfl
theorem dX11_inWords_45 : decode cX11_inWords 45 = .ok (.isub, 1) := kq.at kqdX11_inWords_44 1 rfl
theorem dX11_inWords_46 : decode cX11_inWords 46 = .ok (.aload_n 0, 1) := kq.at kqdX11_inWords_44 2 rfl
theorem dX11_inWords_47 : decode cX11_inWords 47 = .ok (.getfield 131, 3) := kq.at kqdX11_inWords_44 3 rfl
theorem dX11_inWords_50 : decode cX11_inWords 50 = .ok (.aload_n 0, 1) := kq.at kqdX11_inWords_44 4 rfl
theorem dX11_inWords_51 : decode cX11_inWords 51 = .ok (.getfield 138, 3) := kq.at kqdX11_inWords_44 5 rfl
theorem dX11_inWords_54 : decode cX11_inWords 54 = .ok (.isub, 1) := kq.at kqdX11_inWords_44 6 rfl
theorem dX11_inWords_55 : decode cX11_inWords 55 = .ok (.if_icmp .ne 7, 3) := kq.at kqdX11_inWords_44 7 rfl
theorem dX11_inWords_58 : decode cX11_inWords 58 = .ok (.iconst 1, 1) := kq.at kqdX11_inWords_44 8 rfl
theorem dX11_inWords_59 : decode cX11_inWords 59 = .ok (.goto 4, 3) := kq.at kqdX11_inWords_44 9 rfl
theorem dX11_inWords_62 : decode cX11_inWords 62 = .ok (.iconst 0, 1) := kq.at kqdX11_inWords_44 10 rfl
theorem dX11_inWords_63 : decode cX11_inWords 63 = .ok (.istore 5, 2) := kq.at kqdX11_inWords_44 11 rfl
theorem dX11_inWords_65 : decode cX11_inWords 65 = .ok (.iload_n 3, 1) := kq.at kqdX11_inWords_44 12 rfl
theorem dX11_inWords_66 : decode cX11_inWords 66 = .ok (.istore 6, 2) := kq.at kqdX11_inWords_44 13 rfl
theorem dX11_inWords_68 : decode cX11_inWords 68 = .ok (.iload 6, 2) := kq.at kqdX11_inWords_44 14 rfl
theorem dX11_inWords_70 : decode cX11_inWords 70 = .ok (.iload 4, 2) := kq.at kqdX11_inWords_44 15 rfl
theorem dX11_inWords_72 : decode cX11_inWords 72 = .ok (.if_icmp .ge 43, 3) := kq.at kqdX11_inWords_44 16 rfl
theorem dX11_inWords_75 : decode cX11_inWords 75 = .ok (.iload 5, 2) := kq.at kqdX11_inWords_44 17 rfl
theorem dX11_inWords_77 : decode cX11_inWords 77 = .ok (.ifCond .eq 38, 3) := kq.at kqdX11_inWords_44 18 rfl
theorem dX11_inWords_80 : decode cX11_inWords 80 = .ok (.aload_n 1, 1) := kq.at kqdX11_inWords_44 19 rfl
theorem dX11_inWords_81 : decode cX11_inWords 81 = .ok (.iload 6, 2) := kq.at kqdX11_inWords_44 20 rfl
theorem dX11_inWords_83 : decode cX11_inWords 83 = .ok (.invokevirtual 165, 3) := kq.at kqdX11_inWords_44 21 rfl
theorem dX11_inWords_86 : decode cX11_inWords 86 = .ok (.aload_n 0, 1) := kq.at kqdX11_inWords_44 22 rfl
theorem dX11_inWords_87 : decode cX11_inWords 87 = .ok (.aload_n 0, 1) := kq.at kqdX11_inWords_44 23 rfl
theorem kqdX11_inWords_88 : kq cX11_inWords [(88, .getfield 138, 3), (91, .iload 6, 2), (93, .iadd, 1), (94, .iload_n 3, 1), (95, .isub, 1), (96, .invokevirtual 134, 3), (99, .if_icmp .ne 7, 3), (102, .iconst 1, 1), (103, .goto 4, 3), (106, .iconst 0, 1), (107, .istore 5, 2), (109, .iinc 6 1, 3), (112, .goto (-44), 3), (115, .iload 5, 2), (117, .ifCond .eq 5, 3), (120, .iload_n 2, 1), (121, .ireturn, 1), (122, .iinc 2 1, 3), (125, .iload 4, 2), (127, .iconst 1, 1), (128, .iadd, 1), (129, .istore_n 3, 1), (130, .goto (-116), 3), (133, .iconst (-1), 1)] = true := by decide +kernel
theorem dX11_inWords_88 : decode cX11_inWords 88 = .ok (.getfield 138, 3) := kq.at kqdX11_inWords_88 0 rfl
theorem dX11_inWords_91 : decode cX11_inWords 91 = .ok (.iload 6, 2) := kq.at kqdX11_inWords_88 1 rfl
theorem dX11_inWords_93 : decode cX11_inWords 93 = .ok (.iadd, 1) := kq.at kqdX11_inWords_88 2 rfl
theorem dX11_inWords_94 : decode cX11_inWords 94 = .ok (.iload_n 3, 1) := kq.at kqdX11_inWords_88 3 rfl
theorem dX11_inWords_95 : decode cX11_inWords 95 = .ok (.isub, 1) := kq.at kqdX11_inWords_88 4 rfl
theorem dX11_inWords_96 : decode cX11_inWords 96 = .ok (.invokevirtual 134, 3) := kq.at kqdX11_inWords_88 5 rfl
theorem dX11_inWords_99 : decode cX11_inWords 99 = .ok (.if_icmp .ne 7, 3) := kq.at kqdX11_inWords_88 6 rfl
theorem dX11_inWords_102 : decode cX11_inWords 102 = .ok (.iconst 1, 1) := kq.at kqdX11_inWords_88 7 rfl
theorem dX11_inWords_103 : decode cX11_inWords 103 = .ok (.goto 4, 3) := kq.at kqdX11_inWords_88 8 rfl
theorem dX11_inWords_106 : decode cX11_inWords 106 = .ok (.iconst 0, 1) := kq.at kqdX11_inWords_88 9 rfl
theorem dX11_inWords_107 : decode cX11_inWords 107 = .ok (.istore 5, 2) := kq.at kqdX11_inWords_88 10 rfl
theorem dX11_inWords_109 : decode cX11_inWords 109 = .ok (.iinc 6 1, 3) := kq.at kqdX11_inWords_88 11 rfl
theorem dX11_inWords_112 : decode cX11_inWords 112 = .ok (.goto (-44), 3) := kq.at kqdX11_inWords_88 12 rfl
theorem dX11_inWords_115 : decode cX11_inWords 115 = .ok (.iload 5, 2) := kq.at kqdX11_inWords_88 13 rfl
theorem dX11_inWords_117 : decode cX11_inWords 117 = .ok (.ifCond .eq 5, 3) := kq.at kqdX11_inWords_88 14 rfl
theorem dX11_inWords_120 : decode cX11_inWords 120 = .ok (.iload_n 2, 1) := kq.at kqdX11_inWords_88 15 rfl
theorem dX11_inWords_121 : decode cX11_inWords 121 = .ok (.ireturn, 1) := kq.at kqdX11_inWords_88 16 rfl
theorem dX11_inWords_122 : decode cX11_inWords 122 = .ok (.iinc 2 1, 3) := kq.at kqdX11_inWords_88 17 rfl
theorem dX11_inWords_125 : decode cX11_inWords 125 = .ok (.iload 4, 2) := kq.at kqdX11_inWords_88 18 rfl
theorem dX11_inWords_127 : decode cX11_inWords 127 = .ok (.iconst 1, 1) := kq.at kqdX11_inWords_88 19 rfl
theorem dX11_inWords_128 : decode cX11_inWords 128 = .ok (.iadd, 1) := kq.at kqdX11_inWords_88 20 rfl
theorem dX11_inWords_129 : decode cX11_inWords 129 = .ok (.istore_n 3, 1) := kq.at kqdX11_inWords_88 21 rfl
theorem dX11_inWords_130 : decode cX11_inWords 130 = .ok (.goto (-116), 3) := kq.at kqdX11_inWords_88 22 rfl
theorem dX11_inWords_133 : decode cX11_inWords 133 = .ok (.iconst (-1), 1) := kq.at kqdX11_inWords_88 23 rfl
theorem dX11_inWords_134 : decode cX11_inWords 134 = .ok (.ireturn, 1) := by decide +kernel
theorem kqdX11_fails_0 : kq cX11_fails [(0, .aload_n 0, 1), (1, .getfield 169, 3), (4, .ifCond .ne 28, 3), (7, .aload_n 0, 1), (8, .aload_n 0, 1), (9, .getfield 144, 3), (12, .iconst 1, 1), (13, .if_icmp .ne 7, 3), (16, .iconst 1, 1), (17, .goto 4, 3), (20, .iload_n 1, 1), (21, .putfield 169, 3), (24, .aload_n 0, 1), (25, .aload_n 0, 1), (26, .getfield 138, 3), (29, .putfield 38, 3), (32, .iconst 0, 1), (33, .ireturn, 1)] = true := by decide +kernel
theorem dX11_fails_0 : decode cX11_fails 0 = .ok (.aload_n 0, 1) := kq.at kqdX11_fails_0 0 rfl
theorem dX11_fails_1 : decode cX11_fails 1 = .ok (.getfield 169, 3) := kq.at kqdX11_fails_0 1 rfl
theorem dX11_fails_4 : decode cX11_fails 4 = .ok (.ifCond .ne 28, 3) := kq.at kqdX11_fails_0 2 rfl
theorem dX11_fails_7 : decode cX11_fails 7 = .ok (.aload_n 0, 1) := kq.at kqdX11_fails_0 3 rfl
theorem dX11_fails_8 : decode cX11_fails 8 = .ok (.aload_n 0, 1) := kq.at kqdX11_fails_0 4 rfl
theorem dX11_fails_9 : decode cX11_fails 9 = .ok (.getfield 144, 3) := kq.at kqdX11_fails_0 5 rfl
theorem dX11_fails_12 : decode cX11_fails 12 = .ok (.iconst 1, 1) := kq.at kqdX11_fails_0 6 rfl
theorem dX11_fails_13 : decode cX11_fails 13 = .ok (.if_icmp .ne 7, 3) := kq.at kqdX11_fails_0 7 rfl
theorem dX11_fails_16 : decode cX11_fails 16 = .ok (.iconst 1, 1) := kq.at kqdX11_fails_0 8 rfl
theorem dX11_fails_17 : decode cX11_fails 17 = .ok (.goto 4, 3) := kq.at kqdX11_fails_0 9 rfl
theorem dX11_fails_20 : decode cX11_fails 20 = .ok (.iload_n 1, 1) := kq.at kqdX11_fails_0 10 rfl
theorem dX11_fails_21 : decode cX11_fails 21 = .ok (.putfield 169, 3) := kq.at kqdX11_fails_0 11 rfl
theorem dX11_fails_24 : decode cX11_fails 24 = .ok (.aload_n 0, 1) := kq.at kqdX11_fails_0 12 rfl
theorem dX11_fails_25 : decode cX11_fails 25 = .ok (.aload_n 0, 1) := kq.at kqdX11_fails_0 13 rfl
theorem dX11_fails_26 : decode cX11_fails 26 = .ok (.getfield 138, 3) := kq.at kqdX11_fails_0 14 rfl
theorem dX11_fails_29 : decode cX11_fails 29 = .ok (.putfield 38, 3) := kq.at kqdX11_fails_0 15 rfl
theorem dX11_fails_32 : decode cX11_fails 32 = .ok (.iconst 0, 1) := kq.at kqdX11_fails_0 16 rfl
theorem dX11_fails_33 : decode cX11_fails 33 = .ok (.ireturn, 1) := kq.at kqdX11_fails_0 17 rfl
theorem kqdX11_begins_0 : kq cX11_begins [(0, .iload_n 1, 1), (1, .ifCond .lt 16, 3), (4, .iload_n 1, 1), (5, .aload_n 0, 1), (6, .getfield 122, 3), (9, .if_icmp .gt 8, 3), (12, .iload_n 1, 1), (13, .iload_n 2, 1), (14, .if_icmp .le 5, 3), (17, .iconst 0, 1), (18, .ireturn, 1), (19, .aload_n 0, 1), (20, .iload_n 1, 1), (21, .putfield 128, 3), (24, .iconst 0, 1), (25, .istore_n 3, 1), (26, .iload_n 3, 1), (27, .iload_n 1, 1), (28, .if_icmp .ge 21, 3), (31, .aload_n 0, 1), (32, .getfield 31, 3), (35, .iload_n 3, 1), (36, .aload_n 0, 1), (37, .getfield 27, 3)] = true := by decide +kernel
theorem dX11_begins_0 : decode cX11_begins 0 = .ok (.iload_n 1, 1) := kq.at kqdX11_begins_0 0 rfl
theorem dX11_begins_1 : decode cX11_begins 1 = .ok (.ifCond .lt 16, 3) := kq.at kqdX11_begins_0 1 rfl
theorem dX11_begins_4 : decode cX11_begins 4 = .ok (.iload_n 1, 1) := kq.at kqdX11_begins_0 2 rfl
theorem dX11_begins_5 : decode cX11_begins 5 = .ok (.aload_n 0, 1) := kq.at kqdX11_begins_0 3 rfl
theorem dX11_begins_6 : decode cX11_begins 6 = .ok (.getfield 122, 3) := kq.at kqdX11_begins_0 4 rfl
theorem dX11_begins_9 : decode cX11_begins 9 = .ok (.if_icmp .gt 8, 3) := kq.at kqdX11_begins_0 5 rfl
theorem dX11_begins_12 : decode cX11_begins 12 = .ok (.iload_n 1, 1) := kq.at kqdX11_begins_0 6 rfl
theorem dX11_begins_13 : decode cX11_begins 13 = .ok (.iload_n 2, 1) := kq.at kqdX11_begins_0 7 rfl
theorem dX11_begins_14 : decode cX11_begins 14 = .ok (.if_icmp .le 5, 3) := kq.at kqdX11_begins_0 8 rfl
theorem dX11_begins_17 : decode cX11_begins 17 = .ok (.iconst 0, 1) := kq.at kqdX11_begins_0 9 rfl
theorem dX11_begins_18 : decode cX11_begins 18 = .ok (.ireturn, 1) := kq.at kqdX11_begins_0 10 rfl
theorem dX11_begins_19 : decode cX11_begins 19 = .ok (.aload_n 0, 1) := kq.at kqdX11_begins_0 11 rfl
theorem dX11_begins_20 : decode cX11_begins 20 = .ok (.iload_n 1, 1) := kq.at kqdX11_begins_0 12 rfl
theorem dX11_begins_21 : decode cX11_begins 21 = .ok (.putfield 128, 3) := kq.at kqdX11_begins_0 13 rfl
theorem dX11_begins_24 : decode cX11_begins 24 = .ok (.iconst 0, 1) := kq.at kqdX11_begins_0 14 rfl
theorem dX11_begins_25 : decode cX11_begins 25 = .ok (.istore_n 3, 1) := kq.at kqdX11_begins_0 15 rfl
theorem dX11_begins_26 : decode cX11_begins 26 = .ok (.iload_n 3, 1) := kq.at kqdX11_begins_0 16 rfl
theorem dX11_begins_27 : decode cX11_begins 27 = .ok (.iload_n 1, 1) := kq.at kqdX11_begins_0 17 rfl
theorem dX11_begins_28 : decode cX11_begins 28 = .ok (.if_icmp .ge 21, 3) := kq.at kqdX11_begins_0 18 rfl
theorem dX11_begins_31 : decode cX11_begins 31 = .ok (.aload_n 0, 1) := kq.at kqdX11_begins_0 19 rfl
theorem dX11_begins_32 : decode cX11_begins 32 = .ok (.getfield 31, 3) := kq.at kqdX11_begins_0 20 rfl
theorem dX11_begins_35 : decode cX11_begins 35 = .ok (.iload_n 3, 1) := kq.at kqdX11_begins_0 21 rfl
theorem dX11_begins_36 : decode cX11_begins 36 = .ok (.aload_n 0, 1) := kq.at kqdX11_begins_0 22 rfl
theorem dX11_begins_37 : decode cX11_begins 37 = .ok (.getfield 27, 3) := kq.at kqdX11_begins_0 23 rfl
theorem kqdX11_begins_40 : kq cX11_begins [(40, .iload_n 3, 1), (41, .baload, 1), (42, .bastore, 1), (43, .iinc 3 1, 3), (46, .goto (-20), 3), (49, .aload_n 0, 1), (50, .iconst 0, 1), (51, .putfield 122, 3), (54, .aload_n 0, 1), (55, .iconst 0, 1), (56, .putfield 169, 3), (59, .aload_n 0, 1), (60, .iconst (-1), 1), (61, .putfield 38, 3), (64, .aload_n 0, 1), (65, .iconst 0, 1), (66, .putfield 131, 3), (69, .aload_n 0, 1), (70, .iconst 0, 1), (71, .putfield 172, 3), (74, .aload_n 0, 1), (75, .invokevirtual 175, 3), (78, .iconst 1, 1), (79, .ireturn, 1)] = true := by decide +kernel
theorem dX11_begins_40 : decode cX11_begins 40 = .ok (.iload_n 3, 1) := kq.at kqdX11_begins_40 0 rfl
theorem dX11_begins_41 : decode cX11_begins 41 = .ok (.baload, 1) := kq.at kqdX11_begins_40 1 rfl
theorem dX11_begins_42 : decode cX11_begins 42 = .ok (.bastore, 1) := kq.at kqdX11_begins_40 2 rfl
theorem dX11_begins_43 : decode cX11_begins 43 = .ok (.iinc 3 1, 3) := kq.at kqdX11_begins_40 3 rfl
theorem dX11_begins_46 : decode cX11_begins 46 = .ok (.goto (-20), 3) := kq.at kqdX11_begins_40 4 rfl
theorem dX11_begins_49 : decode cX11_begins 49 = .ok (.aload_n 0, 1) := kq.at kqdX11_begins_40 5 rfl
theorem dX11_begins_50 : decode cX11_begins 50 = .ok (.iconst 0, 1) := kq.at kqdX11_begins_40 6 rfl
theorem dX11_begins_51 : decode cX11_begins 51 = .ok (.putfield 122, 3) := kq.at kqdX11_begins_40 7 rfl
theorem dX11_begins_54 : decode cX11_begins 54 = .ok (.aload_n 0, 1) := kq.at kqdX11_begins_40 8 rfl
theorem dX11_begins_55 : decode cX11_begins 55 = .ok (.iconst 0, 1) := kq.at kqdX11_begins_40 9 rfl
theorem dX11_begins_56 : decode cX11_begins 56 = .ok (.putfield 169, 3) := kq.at kqdX11_begins_40 10 rfl
theorem dX11_begins_59 : decode cX11_begins 59 = .ok (.aload_n 0, 1) := kq.at kqdX11_begins_40 11 rfl
theorem dX11_begins_60 : decode cX11_begins 60 = .ok (.iconst (-1), 1) := kq.at kqdX11_begins_40 12 rfl
theorem dX11_begins_61 : decode cX11_begins 61 = .ok (.putfield 38, 3) := kq.at kqdX11_begins_40 13 rfl
theorem dX11_begins_64 : decode cX11_begins 64 = .ok (.aload_n 0, 1) := kq.at kqdX11_begins_40 14 rfl
theorem dX11_begins_65 : decode cX11_begins 65 = .ok (.iconst 0, 1) := kq.at kqdX11_begins_40 15 rfl
theorem dX11_begins_66 : decode cX11_begins 66 = .ok (.putfield 131, 3) := kq.at kqdX11_begins_40 16 rfl
theorem dX11_begins_69 : decode cX11_begins 69 = .ok (.aload_n 0, 1) := kq.at kqdX11_begins_40 17 rfl
theorem dX11_begins_70 : decode cX11_begins 70 = .ok (.iconst 0, 1) := kq.at kqdX11_begins_40 18 rfl
theorem dX11_begins_71 : decode cX11_begins 71 = .ok (.putfield 172, 3) := kq.at kqdX11_begins_40 19 rfl
theorem dX11_begins_74 : decode cX11_begins 74 = .ok (.aload_n 0, 1) := kq.at kqdX11_begins_40 20 rfl
theorem dX11_begins_75 : decode cX11_begins 75 = .ok (.invokevirtual 175, 3) := kq.at kqdX11_begins_40 21 rfl
theorem dX11_begins_78 : decode cX11_begins 78 = .ok (.iconst 1, 1) := kq.at kqdX11_begins_40 22 rfl
theorem dX11_begins_79 : decode cX11_begins 79 = .ok (.ireturn, 1) := kq.at kqdX11_begins_40 23 rfl
theorem kqdX11_wantSign_0 : kq cX11_wantSign [(0, .aload_n 0, 1), (1, .iload_n 1, 1), (2, .invokevirtual 178, 3), (5, .ifCond .ne 9, 3), (8, .aload_n 0, 1), (9, .iconst 2, 1), (10, .invokevirtual 181, 3), (13, .ireturn, 1), (14, .aload_n 0, 1), (15, .invokevirtual 175, 3), (18, .iconst 1, 1), (19, .ireturn, 1)] = true := by decide +kernel
theorem dX11_wantSign_0 : decode cX11_wantSign 0 = .ok (.aload_n 0, 1) := kq.at kqdX11_wantSign_0 0 rfl
theorem dX11_wantSign_1 : decode cX11_wantSign 1 = .ok (.iload_n 1, 1) := kq.at kqdX11_wantSign_0 1 rfl
theorem dX11_wantSign_2 : decode cX11_wantSign 2 = .ok (.invokevirtual 178, 3) := kq.at kqdX11_wantSign_0 2 rfl
theorem dX11_wantSign_5 : decode cX11_wantSign 5 = .ok (.ifCond .ne 9, 3) := kq.at kqdX11_wantSign_0 3 rfl
theorem dX11_wantSign_8 : decode cX11_wantSign 8 = .ok (.aload_n 0, 1) := kq.at kqdX11_wantSign_0 4 rfl
theorem dX11_wantSign_9 : decode cX11_wantSign 9 = .ok (.iconst 2, 1) := kq.at kqdX11_wantSign_0 5 rfl
theorem dX11_wantSign_10 : decode cX11_wantSign 10 = .ok (.invokevirtual 181, 3) := kq.at kqdX11_wantSign_0 6 rfl
theorem dX11_wantSign_13 : decode cX11_wantSign 13 = .ok (.ireturn, 1) := kq.at kqdX11_wantSign_0 7 rfl
theorem dX11_wantSign_14 : decode cX11_wantSign 14 = .ok (.aload_n 0, 1) := kq.at kqdX11_wantSign_0 8 rfl
theorem dX11_wantSign_15 : decode cX11_wantSign 15 = .ok (.invokevirtual 175, 3) := kq.at kqdX11_wantSign_0 9 rfl
theorem dX11_wantSign_18 : decode cX11_wantSign 18 = .ok (.iconst 1, 1) := kq.at kqdX11_wantSign_0 10 rfl
theorem dX11_wantSign_19 : decode cX11_wantSign 19 = .ok (.ireturn, 1) := kq.at kqdX11_wantSign_0 11 rfl
theorem kqdX11_wantWord_0 : kq cX11_wantWord [(0, .aload_n 0, 1), (1, .aload_n 1, 1), (2, .invokevirtual 184, 3), (5, .iload_n 2, 1), (6, .if_icmp .eq 9, 3), (9, .aload_n 0, 1), (10, .iconst 2, 1), (11, .invokevirtual 181, 3), (14, .ireturn, 1), (15, .aload_n 0, 1), (16, .invokevirtual 175, 3), (19, .iconst 1, 1), (20, .ireturn, 1)] = true := by decide +kernel
theorem dX11_wantWord_0 : decode cX11_wantWord 0 = .ok (.aload_n 0, 1) := kq.at kqdX11_wantWord_0 0 rfl
theorem dX11_wantWord_1 : decode cX11_wantWord 1 = .ok (.aload_n 1, 1) := kq.at kqdX11_wantWord_0 1 rfl
theorem dX11_wantWord_2 : decode cX11_wantWord 2 = .ok (.invokevirtual 184, 3) := kq.at kqdX11_wantWord_0 2 rfl
theorem dX11_wantWord_5 : decode cX11_wantWord 5 = .ok (.iload_n 2, 1) := kq.at kqdX11_wantWord_0 3 rfl
theorem dX11_wantWord_6 : decode cX11_wantWord 6 = .ok (.if_icmp .eq 9, 3) := kq.at kqdX11_wantWord_0 4 rfl
theorem dX11_wantWord_9 : decode cX11_wantWord 9 = .ok (.aload_n 0, 1) := kq.at kqdX11_wantWord_0 5 rfl
theorem dX11_wantWord_10 : decode cX11_wantWord 10 = .ok (.iconst 2, 1) := kq.at kqdX11_wantWord_0 6 rfl
theorem dX11_wantWord_11 : decode cX11_wantWord 11 = .ok (.invokevirtual 181, 3) := kq.at kqdX11_wantWord_0 7 rfl
theorem dX11_wantWord_14 : decode cX11_wantWord 14 = .ok (.ireturn, 1) := kq.at kqdX11_wantWord_0 8 rfl
theorem dX11_wantWord_15 : decode cX11_wantWord 15 = .ok (.aload_n 0, 1) := kq.at kqdX11_wantWord_0 9 rfl
theorem dX11_wantWord_16 : decode cX11_wantWord 16 = .ok (.invokevirtual 175, 3) := kq.at kqdX11_wantWord_0 10 rfl
theorem dX11_wantWord_19 : decode cX11_wantWord 19 = .ok (.iconst 1, 1) := kq.at kqdX11_wantWord_0 11 rfl
theorem dX11_wantWord_20 : decode cX11_wantWord 20 = .ok (.ireturn, 1) := kq.at kqdX11_wantWord_0 12 rfl
theorem kqdX11_number_0 : kq cX11_number [(0, .aload_n 0, 1), (1, .getfield 144, 3), (4, .iconst 3, 1), (5, .if_icmp .eq 9, 3), (8, .aload_n 0, 1), (9, .iconst 2, 1), (10, .invokevirtual 181, 3), (13, .ireturn, 1), (14, .aload_n 0, 1), (15, .getfield 141, 3), (18, .iload_n 2, 1), (19, .if_icmp .lt 11, 3), (22, .aload_n 0, 1), (23, .getfield 141, 3), (26, .iload_n 3, 1), (27, .if_icmp .le 9, 3), (30, .aload_n 0, 1), (31, .iconst 4, 1), (32, .invokevirtual 181, 3), (35, .ireturn, 1), (36, .aload_n 0, 1), (37, .getfield 7, 3), (40, .iload_n 1, 1), (41, .aload_n 0, 1)] = true := by decide +kernel
theorem dX11_number_0 : decode cX11_number 0 = .ok (.aload_n 0, 1) := kq.at kqdX11_number_0 0 rfl
theorem dX11_number_1 : decode cX11_number 1 = .ok (.getfield 144, 3) := kq.at kqdX11_number_0 1 rfl
theorem dX11_number_4 : decode cX11_number 4 = .ok (.iconst 3, 1) := kq.at kqdX11_number_0 2 rfl
theorem dX11_number_5 : decode cX11_number 5 = .ok (.if_icmp .eq 9, 3) := kq.at kqdX11_number_0 3 rfl
theorem dX11_number_8 : decode cX11_number 8 = .ok (.aload_n 0, 1) := kq.at kqdX11_number_0 4 rfl
theorem dX11_number_9 : decode cX11_number 9 = .ok (.iconst 2, 1) := kq.at kqdX11_number_0 5 rfl
theorem dX11_number_10 : decode cX11_number 10 = .ok (.invokevirtual 181, 3) := kq.at kqdX11_number_0 6 rfl
theorem dX11_number_13 : decode cX11_number 13 = .ok (.ireturn, 1) := kq.at kqdX11_number_0 7 rfl
theorem dX11_number_14 : decode cX11_number 14 = .ok (.aload_n 0, 1) := kq.at kqdX11_number_0 8 rfl
theorem dX11_number_15 : decode cX11_number 15 = .ok (.getfield 141, 3) := kq.at kqdX11_number_0 9 rfl
theorem dX11_number_18 : decode cX11_number 18 = .ok (.iload_n 2, 1) := kq.at kqdX11_number_0 10 rfl
theorem dX11_number_19 : decode cX11_number 19 = .ok (.if_icmp .lt 11, 3) := kq.at kqdX11_number_0 11 rfl
theorem dX11_number_22 : decode cX11_number 22 = .ok (.aload_n 0, 1) := kq.at kqdX11_number_0 12 rfl
theorem dX11_number_23 : decode cX11_number 23 = .ok (.getfield 141, 3) := kq.at kqdX11_number_0 13 rfl
theorem dX11_number_26 : decode cX11_number 26 = .ok (.iload_n 3, 1) := kq.at kqdX11_number_0 14 rfl
theorem dX11_number_27 : decode cX11_number 27 = .ok (.if_icmp .le 9, 3) := kq.at kqdX11_number_0 15 rfl
theorem dX11_number_30 : decode cX11_number 30 = .ok (.aload_n 0, 1) := kq.at kqdX11_number_0 16 rfl
theorem dX11_number_31 : decode cX11_number 31 = .ok (.iconst 4, 1) := kq.at kqdX11_number_0 17 rfl
theorem dX11_number_32 : decode cX11_number 32 = .ok (.invokevirtual 181, 3) := kq.at kqdX11_number_0 18 rfl
theorem dX11_number_35 : decode cX11_number 35 = .ok (.ireturn, 1) := kq.at kqdX11_number_0 19 rfl
theorem dX11_number_36 : decode cX11_number 36 = .ok (.aload_n 0, 1) := kq.at kqdX11_number_0 20 rfl
theorem dX11_number_37 : decode cX11_number 37 = .ok (.getfield 7, 3) := kq.at kqdX11_number_0 21 rfl
theorem dX11_number_40 : decode cX11_number 40 = .ok (.iload_n 1, 1) := kq.at kqdX11_number_0 22 rfl
theorem dX11_number_41 : decode cX11_number 41 = .ok (.aload_n 0, 1) := kq.at kqdX11_number_0 23 rfl
theorem kqdX11_number_42 : kq cX11_number [(42, .getfield 141, 3), (45, .iastore, 1), (46, .aload_n 0, 1), (47, .invokevirtual 175, 3), (50, .iconst 1, 1), (51, .ireturn, 1)] = true := by decide +kernel
theorem dX11_number_42 : decode cX11_number 42 = .ok (.getfield 141, 3) := kq.at kqdX11_number_42 0 rfl
theorem dX11_number_45 : decode cX11_number 45 = .ok (.iastore, 1) := kq.at kqdX11_number_42 1 rfl
theorem dX11_number_46 : decode cX11_number 46 = .ok (.aload_n 0, 1) := kq.at kqdX11_number_42 2 rfl
theorem dX11_number_47 : decode cX11_number 47 = .ok (.invokevirtual 175, 3) := kq.at kqdX11_number_42 3 rfl
theorem dX11_number_50 : decode cX11_number 50 = .ok (.iconst 1, 1) := kq.at kqdX11_number_42 4 rfl
theorem dX11_number_51 : decode cX11_number 51 = .ok (.ireturn, 1) := kq.at kqdX11_number_42 5 rfl
theorem kqdX11_fault_0 : kq cX11_fault [(0, .iload_n 1, 1), (1, .ifCond .ne 10, 3), (4, .aload_n 0, 1), (5, .getfield 34, 3), (8, .goto 16, 3), (11, .iload_n 1, 1), (12, .iconst 1, 1), (13, .if_icmp .ne 10, 3), (16, .aload_n 0, 1), (17, .getfield 38, 3), (20, .goto 4, 3), (23, .iconst (-1), 1), (24, .ireturn, 1)] = true := by decide +kernel
theorem dX11_fault_0 : decode cX11_fault 0 = .ok (.iload_n 1, 1) := kq.at kqdX11_fault_0 0 rfl
theorem dX11_fault_1 : decode cX11_fault 1 = .ok (.ifCond .ne 10, 3) := kq.at kqdX11_fault_0 1 rfl
theorem dX11_fault_4 : decode cX11_fault 4 = .ok (.aload_n 0, 1) := kq.at kqdX11_fault_0 2 rfl
theorem dX11_fault_5 : decode cX11_fault 5 = .ok (.getfield 34, 3) := kq.at kqdX11_fault_0 3 rfl
theorem dX11_fault_8 : decode cX11_fault 8 = .ok (.goto 16, 3) := kq.at kqdX11_fault_0 4 rfl
theorem dX11_fault_11 : decode cX11_fault 11 = .ok (.iload_n 1, 1) := kq.at kqdX11_fault_0 5 rfl
theorem dX11_fault_12 : decode cX11_fault 12 = .ok (.iconst 1, 1) := kq.at kqdX11_fault_0 6 rfl
theorem dX11_fault_13 : decode cX11_fault 13 = .ok (.if_icmp .ne 10, 3) := kq.at kqdX11_fault_0 7 rfl
theorem dX11_fault_16 : decode cX11_fault 16 = .ok (.aload_n 0, 1) := kq.at kqdX11_fault_0 8 rfl
theorem dX11_fault_17 : decode cX11_fault 17 = .ok (.getfield 38, 3) := kq.at kqdX11_fault_0 9 rfl
theorem dX11_fault_20 : decode cX11_fault 20 = .ok (.goto 4, 3) := kq.at kqdX11_fault_0 10 rfl
theorem dX11_fault_23 : decode cX11_fault 23 = .ok (.iconst (-1), 1) := kq.at kqdX11_fault_0 11 rfl
theorem dX11_fault_24 : decode cX11_fault 24 = .ok (.ireturn, 1) := kq.at kqdX11_fault_0 12 rfl
theorem kqdX11_taken_0 : kq cX11_taken [(0, .aload_n 0, 1), (1, .aload_n 0, 1), (2, .getfield 169, 3), (5, .putfield 34, 3), (8, .aload_n 0, 1), (9, .getfield 169, 3), (12, .ifCond .le 12, 3), (15, .aload_n 0, 1), (16, .bipush 9, 2), (18, .invokevirtual 188, 3), (21, .goto 8, 3), (24, .aload_n 0, 1), (25, .iload_n 1, 1), (26, .invokevirtual 191, 3), (29, .ireturn, 1)] = true := by decide +kernel
theorem dX11_taken_0 : decode cX11_taken 0 = .ok (.aload_n 0, 1) := kq.at kqdX11_taken_0 0 rfl
theorem dX11_taken_1 : decode cX11_taken 1 = .ok (.aload_n 0, 1) := kq.at kqdX11_taken_0 1 rfl
theorem dX11_taken_2 : decode cX11_taken 2 = .ok (.getfield 169, 3) := kq.at kqdX11_taken_0 2 rfl
theorem dX11_taken_5 : decode cX11_taken 5 = .ok (.putfield 34, 3) := kq.at kqdX11_taken_0 3 rfl
theorem dX11_taken_8 : decode cX11_taken 8 = .ok (.aload_n 0, 1) := kq.at kqdX11_taken_0 4 rfl
theorem dX11_taken_9 : decode cX11_taken 9 = .ok (.getfield 169, 3) := kq.at kqdX11_taken_0 5 rfl
theorem dX11_taken_12 : decode cX11_taken 12 = .ok (.ifCond .le 12, 3) := kq.at kqdX11_taken_0 6 rfl
theorem dX11_taken_15 : decode cX11_taken 15 = .ok (.aload_n 0, 1) := kq.at kqdX11_taken_0 7 rfl
theorem dX11_taken_16 : decode cX11_taken 16 = .ok (.bipush 9, 2) := kq.at kqdX11_taken_0 8 rfl
theorem dX11_taken_18 : decode cX11_taken 18 = .ok (.invokevirtual 188, 3) := kq.at kqdX11_taken_0 9 rfl
theorem dX11_taken_21 : decode cX11_taken 21 = .ok (.goto 8, 3) := kq.at kqdX11_taken_0 10 rfl
theorem dX11_taken_24 : decode cX11_taken 24 = .ok (.aload_n 0, 1) := kq.at kqdX11_taken_0 11 rfl
theorem dX11_taken_25 : decode cX11_taken 25 = .ok (.iload_n 1, 1) := kq.at kqdX11_taken_0 12 rfl
theorem dX11_taken_26 : decode cX11_taken 26 = .ok (.invokevirtual 191, 3) := kq.at kqdX11_taken_0 13 rfl
theorem dX11_taken_29 : decode cX11_taken 29 = .ok (.ireturn, 1) := kq.at kqdX11_taken_0 14 rfl
theorem kqdX11_ruleAt_0 : kq cX11_ruleAt [(0, .iload_n 0, 1), (1, .bipush 12, 2), (3, .iadd, 1), (4, .bipush 12, 2), (6, .iload_n 1, 1), (7, .imul, 1), (8, .iadd, 1), (9, .ireturn, 1)] = true := by decide +kernel
theorem dX11_ruleAt_0 : decode cX11_ruleAt 0 = .ok (.iload_n 0, 1) := kq.at kqdX11_ruleAt_0 0 rfl
theorem dX11_ruleAt_1 : decode cX11_ruleAt 1 = .ok (.bipush 12, 2) := kq.at kqdX11_ruleAt_0 1 rfl
theorem dX11_ruleAt_3 : decode cX11_ruleAt 3 = .ok (.iadd, 1) := kq.at kqdX11_ruleAt_0 2 rfl
theorem dX11_ruleAt_4 : decode cX11_ruleAt 4 = .ok (.bipush 12, 2) := kq.at kqdX11_ruleAt_0 3 rfl
theorem dX11_ruleAt_6 : decode cX11_ruleAt 6 = .ok (.iload_n 1, 1) := kq.at kqdX11_ruleAt_0 4 rfl
theorem dX11_ruleAt_7 : decode cX11_ruleAt 7 = .ok (.imul, 1) := kq.at kqdX11_ruleAt_0 5 rfl
theorem dX11_ruleAt_8 : decode cX11_ruleAt 8 = .ok (.iadd, 1) := kq.at kqdX11_ruleAt_0 6 rfl
theorem dX11_ruleAt_9 : decode cX11_ruleAt 9 = .ok (.ireturn, 1) := kq.at kqdX11_ruleAt_0 7 rfl
theorem kqdX11_likeRule_0 : kq cX11_likeRule [(0, .aload_n 0, 1), (1, .getfield 7, 3), (4, .iload_n 1, 1), (5, .iaload, 1), (6, .aload_n 0, 1), (7, .getfield 7, 3), (10, .iload_n 2, 1), (11, .iaload, 1), (12, .if_icmp .ne 28, 3), (15, .aload_n 0, 1), (16, .getfield 7, 3), (19, .iload_n 1, 1), (20, .bipush 11, 2), (22, .iadd, 1), (23, .iaload, 1), (24, .aload_n 0, 1), (25, .getfield 7, 3), (28, .iload_n 2, 1), (29, .bipush 11, 2), (31, .iadd, 1), (32, .iaload, 1), (33, .if_icmp .ne 7, 3), (36, .iconst 1, 1), (37, .goto 4, 3)] = true := by decide +kernel
theorem dX11_likeRule_0 : decode cX11_likeRule 0 = .ok (.aload_n 0, 1) := kq.at kqdX11_likeRule_0 0 rfl
theorem dX11_likeRule_1 : decode cX11_likeRule 1 = .ok (.getfield 7, 3) := kq.at kqdX11_likeRule_0 1 rfl
theorem dX11_likeRule_4 : decode cX11_likeRule 4 = .ok (.iload_n 1, 1) := kq.at kqdX11_likeRule_0 2 rfl
theorem dX11_likeRule_5 : decode cX11_likeRule 5 = .ok (.iaload, 1) := kq.at kqdX11_likeRule_0 3 rfl
theorem dX11_likeRule_6 : decode cX11_likeRule 6 = .ok (.aload_n 0, 1) := kq.at kqdX11_likeRule_0 4 rfl
theorem dX11_likeRule_7 : decode cX11_likeRule 7 = .ok (.getfield 7, 3) := kq.at kqdX11_likeRule_0 5 rfl
theorem dX11_likeRule_10 : decode cX11_likeRule 10 = .ok (.iload_n 2, 1) := kq.at kqdX11_likeRule_0 6 rfl
theorem dX11_likeRule_11 : decode cX11_likeRule 11 = .ok (.iaload, 1) := kq.at kqdX11_likeRule_0 7 rfl
theorem dX11_likeRule_12 : decode cX11_likeRule 12 = .ok (.if_icmp .ne 28, 3) := kq.at kqdX11_likeRule_0 8 rfl
theorem dX11_likeRule_15 : decode cX11_likeRule 15 = .ok (.aload_n 0, 1) := kq.at kqdX11_likeRule_0 9 rfl
theorem dX11_likeRule_16 : decode cX11_likeRule 16 = .ok (.getfield 7, 3) := kq.at kqdX11_likeRule_0 10 rfl
theorem dX11_likeRule_19 : decode cX11_likeRule 19 = .ok (.iload_n 1, 1) := kq.at kqdX11_likeRule_0 11 rfl
theorem dX11_likeRule_20 : decode cX11_likeRule 20 = .ok (.bipush 11, 2) := kq.at kqdX11_likeRule_0 12 rfl
theorem dX11_likeRule_22 : decode cX11_likeRule 22 = .ok (.iadd, 1) := kq.at kqdX11_likeRule_0 13 rfl
theorem dX11_likeRule_23 : decode cX11_likeRule 23 = .ok (.iaload, 1) := kq.at kqdX11_likeRule_0 14 rfl
theorem dX11_likeRule_24 : decode cX11_likeRule 24 = .ok (.aload_n 0, 1) := kq.at kqdX11_likeRule_0 15 rfl
theorem dX11_likeRule_25 : decode cX11_likeRule 25 = .ok (.getfield 7, 3) := kq.at kqdX11_likeRule_0 16 rfl
theorem dX11_likeRule_28 : decode cX11_likeRule 28 = .ok (.iload_n 2, 1) := kq.at kqdX11_likeRule_0 17 rfl
theorem dX11_likeRule_29 : decode cX11_likeRule 29 = .ok (.bipush 11, 2) := kq.at kqdX11_likeRule_0 18 rfl
theorem dX11_likeRule_31 : decode cX11_likeRule 31 = .ok (.iadd, 1) := kq.at kqdX11_likeRule_0 19 rfl
theorem dX11_likeRule_32 : decode cX11_likeRule 32 = .ok (.iaload, 1) := kq.at kqdX11_likeRule_0 20 rfl
theorem dX11_likeRule_33 : decode cX11_likeRule 33 = .ok (.if_icmp .ne 7, 3) := kq.at kqdX11_likeRule_0 21 rfl
theorem dX11_likeRule_36 : decode cX11_likeRule 36 = .ok (.iconst 1, 1) := kq.at kqdX11_likeRule_0 22 rfl
theorem dX11_likeRule_37 : decode cX11_likeRule 37 = .ok (.goto 4, 3) := kq.at kqdX11_likeRule_0 23 rfl
theorem kqdX11_likeRule_40 : kq cX11_likeRule [(40, .iconst 0, 1), (41, .istore_n 3, 1), (42, .iconst 0, 1), (43, .istore 4, 2), (45, .iload 4, 2), (47, .aload_n 0, 1), (48, .getfield 7, 3), (51, .iload_n 1, 1), (52, .iaload, 1), (53, .if_icmp .ge 44, 3), (56, .iload_n 3, 1), (57, .ifCond .eq 40, 3), (60, .aload_n 0, 1), (61, .getfield 7, 3), (64, .iload_n 1, 1), (65, .iconst 1, 1), (66, .iadd, 1), (67, .iload 4, 2), (69, .iadd, 1), (70, .iaload, 1), (71, .aload_n 0, 1), (72, .getfield 7, 3), (75, .iload_n 2, 1), (76, .iconst 1, 1)] = true := by decide +kernel
theorem dX11_likeRule_40 : decode cX11_likeRule 40 = .ok (.iconst 0, 1) := kq.at kqdX11_likeRule_40 0 rfl
theorem dX11_likeRule_41 : decode cX11_likeRule 41 = .ok (.istore_n 3, 1) := kq.at kqdX11_likeRule_40 1 rfl
theorem dX11_likeRule_42 : decode cX11_likeRule 42 = .ok (.iconst 0, 1) := kq.at kqdX11_likeRule_40 2 rfl
theorem dX11_likeRule_43 : decode cX11_likeRule 43 = .ok (.istore 4, 2) := kq.at kqdX11_likeRule_40 3 rfl
theorem dX11_likeRule_45 : decode cX11_likeRule 45 = .ok (.iload 4, 2) := kq.at kqdX11_likeRule_40 4 rfl
theorem dX11_likeRule_47 : decode cX11_likeRule 47 = .ok (.aload_n 0, 1) := kq.at kqdX11_likeRule_40 5 rfl
theorem dX11_likeRule_48 : decode cX11_likeRule 48 = .ok (.getfield 7, 3) := kq.at kqdX11_likeRule_40 6 rfl
theorem dX11_likeRule_51 : decode cX11_likeRule 51 = .ok (.iload_n 1, 1) := kq.at kqdX11_likeRule_40 7 rfl
theorem dX11_likeRule_52 : decode cX11_likeRule 52 = .ok (.iaload, 1) := kq.at kqdX11_likeRule_40 8 rfl
theorem dX11_likeRule_53 : decode cX11_likeRule 53 = .ok (.if_icmp .ge 44, 3) := kq.at kqdX11_likeRule_40 9 rfl
theorem dX11_likeRule_56 : decode cX11_likeRule 56 = .ok (.iload_n 3, 1) := kq.at kqdX11_likeRule_40 10 rfl
theorem dX11_likeRule_57 : decode cX11_likeRule 57 = .ok (.ifCond .eq 40, 3) := kq.at kqdX11_likeRule_40 11 rfl
theorem dX11_likeRule_60 : decode cX11_likeRule 60 = .ok (.aload_n 0, 1) := kq.at kqdX11_likeRule_40 12 rfl
theorem dX11_likeRule_61 : decode cX11_likeRule 61 = .ok (.getfield 7, 3) := kq.at kqdX11_likeRule_40 13 rfl
theorem dX11_likeRule_64 : decode cX11_likeRule 64 = .ok (.iload_n 1, 1) := kq.at kqdX11_likeRule_40 14 rfl
theorem dX11_likeRule_65 : decode cX11_likeRule 65 = .ok (.iconst 1, 1) := kq.at kqdX11_likeRule_40 15 rfl
theorem dX11_likeRule_66 : decode cX11_likeRule 66 = .ok (.iadd, 1) := kq.at kqdX11_likeRule_40 16 rfl
theorem dX11_likeRule_67 : decode cX11_likeRule 67 = .ok (.iload 4, 2) := kq.at kqdX11_likeRule_40 17 rfl
theorem dX11_likeRule_69 : decode cX11_likeRule 69 = .ok (.iadd, 1) := kq.at kqdX11_likeRule_40 18 rfl
theorem dX11_likeRule_70 : decode cX11_likeRule 70 = .ok (.iaload, 1) := kq.at kqdX11_likeRule_40 19 rfl
theorem dX11_likeRule_71 : decode cX11_likeRule 71 = .ok (.aload_n 0, 1) := kq.at kqdX11_likeRule_40 20 rfl
theorem dX11_likeRule_72 : decode cX11_likeRule 72 = .ok (.getfield 7, 3) := kq.at kqdX11_likeRule_40 21 rfl
theorem dX11_likeRule_75 : decode cX11_likeRule 75 = .ok (.iload_n 2, 1) := kq.at kqdX11_likeRule_40 22 rfl
theorem dX11_likeRule_76 : decode cX11_likeRule 76 = .ok (.iconst 1, 1) := kq.at kqdX11_likeRule_40 23 rfl
theorem kqdX11_likeRule_77 : kq cX11_likeRule [(77, .iadd, 1), (78, .iload 4, 2), (80, .iadd, 1), (81, .iaload, 1), (82, .if_icmp .ne 7, 3), (85, .iconst 1, 1), (86, .goto 4, 3), (89, .iconst 0, 1), (90, .istore_n 3, 1), (91, .iinc 4 1, 3), (94, .goto (-49), 3), (97, .iload_n 3, 1), (98, .ireturn, 1)] = true := by decide +kernel
theorem dX11_likeRule_77 : decode cX11_likeRule 77 = .ok (.iadd, 1) := kq.at kqdX11_likeRule_77 0 rfl
theorem dX11_likeRule_78 : decode cX11_likeRule 78 = .ok (.iload 4, 2) := kq.at kqdX11_likeRule_77 1 rfl
theorem dX11_likeRule_80 : decode cX11_likeRule 80 = .ok (.iadd, 1) := kq.at kqdX11_likeRule_77 2 rfl
theorem dX11_likeRule_81 : decode cX11_likeRule 81 = .ok (.iaload, 1) := kq.at kqdX11_likeRule_77 3 rfl
theorem dX11_likeRule_82 : decode cX11_likeRule 82 = .ok (.if_icmp .ne 7, 3) := kq.at kqdX11_likeRule_77 4 rfl
theorem dX11_likeRule_85 : decode cX11_likeRule 85 = .ok (.iconst 1, 1) := kq.at kqdX11_likeRule_77 5 rfl
theorem dX11_likeRule_86 : decode cX11_likeRule 86 = .ok (.goto 4, 3) := kq.at kqdX11_likeRule_77 6 rfl
theorem dX11_likeRule_89 : decode cX11_likeRule 89 = .ok (.iconst 0, 1) := kq.at kqdX11_likeRule_77 7 rfl
theorem dX11_likeRule_90 : decode cX11_likeRule 90 = .ok (.istore_n 3, 1) := kq.at kqdX11_likeRule_77 8 rfl
theorem dX11_likeRule_91 : decode cX11_likeRule 91 = .ok (.iinc 4 1, 3) := kq.at kqdX11_likeRule_77 9 rfl
theorem dX11_likeRule_94 : decode cX11_likeRule 94 = .ok (.goto (-49), 3) := kq.at kqdX11_likeRule_77 10 rfl
theorem dX11_likeRule_97 : decode cX11_likeRule 97 = .ok (.iload_n 3, 1) := kq.at kqdX11_likeRule_77 11 rfl
theorem dX11_likeRule_98 : decode cX11_likeRule 98 = .ok (.ireturn, 1) := kq.at kqdX11_likeRule_77 12 rfl
theorem kqdX11_aRule_0 : kq cX11_aRule [(0, .aload_n 0, 1), (1, .getfield 7, 3), (4, .sipush 13200, 3), (7, .iaload, 1), (8, .istore_n 1, 1), (9, .sipush 13200, 3), (12, .iload_n 1, 1), (13, .invokestatic 194, 3), (16, .istore_n 2, 1), (17, .iload_n 1, 1), (18, .bipush 24, 2), (20, .if_icmp .ne 10, 3), (23, .aload_n 0, 1), (24, .bipush 6, 2), (26, .invokevirtual 181, 3), (29, .ireturn, 1), (30, .aload_n 0, 1), (31, .invokevirtual 175, 3), (34, .aload_n 0, 1), (35, .getfield 144, 3), (38, .iconst 2, 1), (39, .if_icmp .ne 17, 3), (42, .aload_n 0, 1), (43, .getfield 131, 3)] = true := by decide +kernel
theorem dX11_aRule_0 : decode cX11_aRule 0 = .ok (.aload_n 0, 1) := kq.at kqdX11_aRule_0 0 rfl
theorem dX11_aRule_1 : decode cX11_aRule 1 = .ok (.getfield 7, 3) := kq.at kqdX11_aRule_0 1 rfl
theorem dX11_aRule_4 : decode cX11_aRule 4 = .ok (.sipush 13200, 3) := kq.at kqdX11_aRule_0 2 rfl
theorem dX11_aRule_7 : decode cX11_aRule 7 = .ok (.iaload, 1) := kq.at kqdX11_aRule_0 3 rfl
theorem dX11_aRule_8 : decode cX11_aRule 8 = .ok (.istore_n 1, 1) := kq.at kqdX11_aRule_0 4 rfl
theorem dX11_aRule_9 : decode cX11_aRule 9 = .ok (.sipush 13200, 3) := kq.at kqdX11_aRule_0 5 rfl
theorem dX11_aRule_12 : decode cX11_aRule 12 = .ok (.iload_n 1, 1) := kq.at kqdX11_aRule_0 6 rfl
theorem dX11_aRule_13 : decode cX11_aRule 13 = .ok (.invokestatic 194, 3) := kq.at kqdX11_aRule_0 7 rfl
theorem dX11_aRule_16 : decode cX11_aRule 16 = .ok (.istore_n 2, 1) := kq.at kqdX11_aRule_0 8 rfl
theorem dX11_aRule_17 : decode cX11_aRule 17 = .ok (.iload_n 1, 1) := kq.at kqdX11_aRule_0 9 rfl
theorem dX11_aRule_18 : decode cX11_aRule 18 = .ok (.bipush 24, 2) := kq.at kqdX11_aRule_0 10 rfl
theorem dX11_aRule_20 : decode cX11_aRule 20 = .ok (.if_icmp .ne 10, 3) := kq.at kqdX11_aRule_0 11 rfl
theorem dX11_aRule_23 : decode cX11_aRule 23 = .ok (.aload_n 0, 1) := kq.at kqdX11_aRule_0 12 rfl
theorem dX11_aRule_24 : decode cX11_aRule 24 = .ok (.bipush 6, 2) := kq.at kqdX11_aRule_0 13 rfl
theorem dX11_aRule_26 : decode cX11_aRule 26 = .ok (.invokevirtual 181, 3) := kq.at kqdX11_aRule_0 14 rfl
theorem dX11_aRule_29 : decode cX11_aRule 29 = .ok (.ireturn, 1) := kq.at kqdX11_aRule_0 15 rfl
theorem dX11_aRule_30 : decode cX11_aRule 30 = .ok (.aload_n 0, 1) := kq.at kqdX11_aRule_0 16 rfl
theorem dX11_aRule_31 : decode cX11_aRule 31 = .ok (.invokevirtual 175, 3) := kq.at kqdX11_aRule_0 17 rfl
theorem dX11_aRule_34 : decode cX11_aRule 34 = .ok (.aload_n 0, 1) := kq.at kqdX11_aRule_0 18 rfl
theorem dX11_aRule_35 : decode cX11_aRule 35 = .ok (.getfield 144, 3) := kq.at kqdX11_aRule_0 19 rfl
theorem dX11_aRule_38 : decode cX11_aRule 38 = .ok (.iconst 2, 1) := kq.at kqdX11_aRule_0 20 rfl
theorem dX11_aRule_39 : decode cX11_aRule 39 = .ok (.if_icmp .ne 17, 3) := kq.at kqdX11_aRule_0 21 rfl
theorem dX11_aRule_42 : decode cX11_aRule 42 = .ok (.aload_n 0, 1) := kq.at kqdX11_aRule_0 22 rfl
theorem dX11_aRule_43 : decode cX11_aRule 43 = .ok (.getfield 131, 3) := kq.at kqdX11_aRule_0 23 rfl
theorem kqdX11_aRule_46 : kq cX11_aRule [(46, .aload_n 0, 1), (47, .getfield 138, 3), (50, .isub, 1), (51, .bipush 6, 2), (53, .if_icmp .le 9, 3), (56, .aload_n 0, 1), (57, .iconst 2, 1), (58, .invokevirtual 181, 3), (61, .ireturn, 1), (62, .aload_n 0, 1), (63, .getfield 7, 3), (66, .iload_n 2, 1), (67, .aload_n 0, 1), (68, .getfield 131, 3), (71, .aload_n 0, 1), (72, .getfield 138, 3), (75, .isub, 1), (76, .iastore, 1), (77, .iconst 0, 1), (78, .istore_n 3, 1), (79, .iload_n 3, 1), (80, .bipush 6, 2), (82, .if_icmp .ge 48, 3), (85, .aload_n 0, 1)] = true := by decide +kernel
theorem dX11_aRule_46 : decode cX11_aRule 46 = .ok (.aload_n 0, 1) := kq.at kqdX11_aRule_46 0 rfl
theorem dX11_aRule_47 : decode cX11_aRule 47 = .ok (.getfield 138, 3) := kq.at kqdX11_aRule_46 1 rfl
theorem dX11_aRule_50 : decode cX11_aRule 50 = .ok (.isub, 1) := kq.at kqdX11_aRule_46 2 rfl
theorem dX11_aRule_51 : decode cX11_aRule 51 = .ok (.bipush 6, 2) := kq.at kqdX11_aRule_46 3 rfl
theorem dX11_aRule_53 : decode cX11_aRule 53 = .ok (.if_icmp .le 9, 3) := kq.at kqdX11_aRule_46 4 rfl
theorem dX11_aRule_56 : decode cX11_aRule 56 = .ok (.aload_n 0, 1) := kq.at kqdX11_aRule_46 5 rfl
theorem dX11_aRule_57 : decode cX11_aRule 57 = .ok (.iconst 2, 1) := kq.at kqdX11_aRule_46 6 rfl
theorem dX11_aRule_58 : decode cX11_aRule 58 = .ok (.invokevirtual 181, 3) := kq.at kqdX11_aRule_46 7 rfl
theorem dX11_aRule_61 : decode cX11_aRule 61 = .ok (.ireturn, 1) := kq.at kqdX11_aRule_46 8 rfl
theorem dX11_aRule_62 : decode cX11_aRule 62 = .ok (.aload_n 0, 1) := kq.at kqdX11_aRule_46 9 rfl
theorem dX11_aRule_63 : decode cX11_aRule 63 = .ok (.getfield 7, 3) := kq.at kqdX11_aRule_46 10 rfl
theorem dX11_aRule_66 : decode cX11_aRule 66 = .ok (.iload_n 2, 1) := kq.at kqdX11_aRule_46 11 rfl
theorem dX11_aRule_67 : decode cX11_aRule 67 = .ok (.aload_n 0, 1) := kq.at kqdX11_aRule_46 12 rfl
theorem dX11_aRule_68 : decode cX11_aRule 68 = .ok (.getfield 131, 3) := kq.at kqdX11_aRule_46 13 rfl
theorem dX11_aRule_71 : decode cX11_aRule 71 = .ok (.aload_n 0, 1) := kq.at kqdX11_aRule_46 14 rfl
theorem dX11_aRule_72 : decode cX11_aRule 72 = .ok (.getfield 138, 3) := kq.at kqdX11_aRule_46 15 rfl
theorem dX11_aRule_75 : decode cX11_aRule 75 = .ok (.isub, 1) := kq.at kqdX11_aRule_46 16 rfl
theorem dX11_aRule_76 : decode cX11_aRule 76 = .ok (.iastore, 1) := kq.at kqdX11_aRule_46 17 rfl
theorem dX11_aRule_77 : decode cX11_aRule 77 = .ok (.iconst 0, 1) := kq.at kqdX11_aRule_46 18 rfl
theorem dX11_aRule_78 : decode cX11_aRule 78 = .ok (.istore_n 3, 1) := kq.at kqdX11_aRule_46 19 rfl
theorem dX11_aRule_79 : decode cX11_aRule 79 = .ok (.iload_n 3, 1) := kq.at kqdX11_aRule_46 20 rfl
theorem dX11_aRule_80 : decode cX11_aRule 80 = .ok (.bipush 6, 2) := kq.at kqdX11_aRule_46 21 rfl
theorem dX11_aRule_82 : decode cX11_aRule 82 = .ok (.if_icmp .ge 48, 3) := kq.at kqdX11_aRule_46 22 rfl
theorem dX11_aRule_85 : decode cX11_aRule 85 = .ok (.aload_n 0, 1) := kq.at kqdX11_aRule_46 23 rfl
theorem kqdX11_aRule_86 : kq cX11_aRule [(86, .getfield 7, 3), (89, .iload_n 2, 1), (90, .iconst 1, 1), (91, .iadd, 1), (92, .iload_n 3, 1), (93, .iadd, 1), (94, .iload_n 3, 1), (95, .aload_n 0, 1), (96, .getfield 7, 3), (99, .iload_n 2, 1), (100, .iaload, 1), (101, .if_icmp .ge 21, 3), (104, .aload_n 0, 1), (105, .aload_n 0, 1), (106, .getfield 138, 3), (109, .iload_n 3, 1), (110, .iadd, 1), (111, .invokevirtual 134, 3), (114, .bipush 97, 2), (116, .isub, 1), (117, .iconst 1, 1), (118, .iadd, 1), (119, .goto 4, 3), (122, .iconst 0, 1)] = true := by decide +kernel
theorem dX11_aRule_86 : decode cX11_aRule 86 = .ok (.getfield 7, 3) := kq.at kqdX11_aRule_86 0 rfl
theorem dX11_aRule_89 : decode cX11_aRule 89 = .ok (.iload_n 2, 1) := kq.at kqdX11_aRule_86 1 rfl
theorem dX11_aRule_90 : decode cX11_aRule 90 = .ok (.iconst 1, 1) := kq.at kqdX11_aRule_86 2 rfl
theorem dX11_aRule_91 : decode cX11_aRule 91 = .ok (.iadd, 1) := kq.at kqdX11_aRule_86 3 rfl
theorem dX11_aRule_92 : decode cX11_aRule 92 = .ok (.iload_n 3, 1) := kq.at kqdX11_aRule_86 4 rfl
theorem dX11_aRule_93 : decode cX11_aRule 93 = .ok (.iadd, 1) := kq.at kqdX11_aRule_86 5 rfl
theorem dX11_aRule_94 : decode cX11_aRule 94 = .ok (.iload_n 3, 1) := kq.at kqdX11_aRule_86 6 rfl
theorem dX11_aRule_95 : decode cX11_aRule 95 = .ok (.aload_n 0, 1) := kq.at kqdX11_aRule_86 7 rfl
theorem dX11_aRule_96 : decode cX11_aRule 96 = .ok (.getfield 7, 3) := kq.at kqdX11_aRule_86 8 rfl
theorem dX11_aRule_99 : decode cX11_aRule 99 = .ok (.iload_n 2, 1) := kq.at kqdX11_aRule_86 9 rfl
theorem dX11_aRule_100 : decode cX11_aRule 100 = .ok (.iaload, 1) := kq.at kqdX11_aRule_86 10 rfl
theorem dX11_aRule_101 : decode cX11_aRule 101 = .ok (.if_icmp .ge 21, 3) := kq.at kqdX11_aRule_86 11 rfl
theorem dX11_aRule_104 : decode cX11_aRule 104 = .ok (.aload_n 0, 1) := kq.at kqdX11_aRule_86 12 rfl
theorem dX11_aRule_105 : decode cX11_aRule 105 = .ok (.aload_n 0, 1) := kq.at kqdX11_aRule_86 13 rfl
theorem dX11_aRule_106 : decode cX11_aRule 106 = .ok (.getfield 138, 3) := kq.at kqdX11_aRule_86 14 rfl
theorem dX11_aRule_109 : decode cX11_aRule 109 = .ok (.iload_n 3, 1) := kq.at kqdX11_aRule_86 15 rfl
theorem dX11_aRule_110 : decode cX11_aRule 110 = .ok (.iadd, 1) := kq.at kqdX11_aRule_86 16 rfl
theorem dX11_aRule_111 : decode cX11_aRule 111 = .ok (.invokevirtual 134, 3) := kq.at kqdX11_aRule_86 17 rfl
theorem dX11_aRule_114 : decode cX11_aRule 114 = .ok (.bipush 97, 2) := kq.at kqdX11_aRule_86 18 rfl
theorem dX11_aRule_116 : decode cX11_aRule 116 = .ok (.isub, 1) := kq.at kqdX11_aRule_86 19 rfl
theorem dX11_aRule_117 : decode cX11_aRule 117 = .ok (.iconst 1, 1) := kq.at kqdX11_aRule_86 20 rfl
theorem dX11_aRule_118 : decode cX11_aRule 118 = .ok (.iadd, 1) := kq.at kqdX11_aRule_86 21 rfl
theorem dX11_aRule_119 : decode cX11_aRule 119 = .ok (.goto 4, 3) := kq.at kqdX11_aRule_86 22 rfl
theorem dX11_aRule_122 : decode cX11_aRule 122 = .ok (.iconst 0, 1) := kq.at kqdX11_aRule_86 23 rfl
theorem kqdX11_aRule_123 : kq cX11_aRule [(123, .iastore, 1), (124, .iinc 3 1, 3), (127, .goto (-48), 3), (130, .aload_n 0, 1), (131, .invokevirtual 175, 3), (134, .aload_n 0, 1), (135, .ldc 197, 2), (137, .bipush 6, 2), (139, .invokevirtual 199, 3), (142, .ifCond .ne 5, 3), (145, .iconst 0, 1), (146, .ireturn, 1), (147, .aload_n 0, 1), (148, .getfield 144, 3), (151, .iconst 3, 1), (152, .if_icmp .eq 9, 3), (155, .aload_n 0, 1), (156, .iconst 2, 1), (157, .invokevirtual 181, 3), (160, .ireturn, 1), (161, .aload_n 0, 1), (162, .getfield 7, 3), (165, .iload_n 2, 1), (166, .bipush 7, 2)] = true := by decide +kernel
theorem dX11_aRule_123 : decode cX11_aRule 123 = .ok (.iastore, 1) := kq.at kqdX11_aRule_123 0 rfl
theorem dX11_aRule_124 : decode cX11_aRule 124 = .ok (.iinc 3 1, 3) := kq.at kqdX11_aRule_123 1 rfl
theorem dX11_aRule_127 : decode cX11_aRule 127 = .ok (.goto (-48), 3) := kq.at kqdX11_aRule_123 2 rfl
theorem dX11_aRule_130 : decode cX11_aRule 130 = .ok (.aload_n 0, 1) := kq.at kqdX11_aRule_123 3 rfl
theorem dX11_aRule_131 : decode cX11_aRule 131 = .ok (.invokevirtual 175, 3) := kq.at kqdX11_aRule_123 4 rfl
theorem dX11_aRule_134 : decode cX11_aRule 134 = .ok (.aload_n 0, 1) := kq.at kqdX11_aRule_123 5 rfl
theorem dX11_aRule_135 : decode cX11_aRule 135 = .ok (.ldc 197, 2) := kq.at kqdX11_aRule_123 6 rfl
theorem dX11_aRule_137 : decode cX11_aRule 137 = .ok (.bipush 6, 2) := kq.at kqdX11_aRule_123 7 rfl
theorem dX11_aRule_139 : decode cX11_aRule 139 = .ok (.invokevirtual 199, 3) := kq.at kqdX11_aRule_123 8 rfl
theorem dX11_aRule_142 : decode cX11_aRule 142 = .ok (.ifCond .ne 5, 3) := kq.at kqdX11_aRule_123 9 rfl
theorem dX11_aRule_145 : decode cX11_aRule 145 = .ok (.iconst 0, 1) := kq.at kqdX11_aRule_123 10 rfl
theorem dX11_aRule_146 : decode cX11_aRule 146 = .ok (.ireturn, 1) := kq.at kqdX11_aRule_123 11 rfl
theorem dX11_aRule_147 : decode cX11_aRule 147 = .ok (.aload_n 0, 1) := kq.at kqdX11_aRule_123 12 rfl
theorem dX11_aRule_148 : decode cX11_aRule 148 = .ok (.getfield 144, 3) := kq.at kqdX11_aRule_123 13 rfl
theorem dX11_aRule_151 : decode cX11_aRule 151 = .ok (.iconst 3, 1) := kq.at kqdX11_aRule_123 14 rfl
theorem dX11_aRule_152 : decode cX11_aRule 152 = .ok (.if_icmp .eq 9, 3) := kq.at kqdX11_aRule_123 15 rfl
theorem dX11_aRule_155 : decode cX11_aRule 155 = .ok (.aload_n 0, 1) := kq.at kqdX11_aRule_123 16 rfl
theorem dX11_aRule_156 : decode cX11_aRule 156 = .ok (.iconst 2, 1) := kq.at kqdX11_aRule_123 17 rfl
theorem dX11_aRule_157 : decode cX11_aRule 157 = .ok (.invokevirtual 181, 3) := kq.at kqdX11_aRule_123 18 rfl
theorem dX11_aRule_160 : decode cX11_aRule 160 = .ok (.ireturn, 1) := kq.at kqdX11_aRule_123 19 rfl
theorem dX11_aRule_161 : decode cX11_aRule 161 = .ok (.aload_n 0, 1) := kq.at kqdX11_aRule_123 20 rfl
theorem dX11_aRule_162 : decode cX11_aRule 162 = .ok (.getfield 7, 3) := kq.at kqdX11_aRule_123 21 rfl
theorem dX11_aRule_165 : decode cX11_aRule 165 = .ok (.iload_n 2, 1) := kq.at kqdX11_aRule_123 22 rfl
theorem dX11_aRule_166 : decode cX11_aRule 166 = .ok (.bipush 7, 2) := kq.at kqdX11_aRule_123 23 rfl
theorem kqdX11_aRule_168 : kq cX11_aRule [(168, .iadd, 1), (169, .iconst 0, 1), (170, .iastore, 1), (171, .aload_n 0, 1), (172, .getfield 144, 3), (175, .iconst 3, 1), (176, .if_icmp .ne 90, 3), (179, .aload_n 0, 1), (180, .getfield 141, 3), (183, .iconst 1, 1), (184, .if_icmp .lt 12, 3), (187, .aload_n 0, 1), (188, .getfield 141, 3), (191, .bipush 63, 2), (193, .if_icmp .le 9, 3), (196, .aload_n 0, 1), (197, .iconst 4, 1), (198, .invokevirtual 181, 3), (201, .ireturn, 1), (202, .aload_n 0, 1), (203, .getfield 7, 3), (206, .iload_n 2, 1), (207, .bipush 7, 2), (209, .iadd, 1)] = true := by decide +kernel
theorem dX11_aRule_168 : decode cX11_aRule 168 = .ok (.iadd, 1) := kq.at kqdX11_aRule_168 0 rfl
theorem dX11_aRule_169 : decode cX11_aRule 169 = .ok (.iconst 0, 1) := kq.at kqdX11_aRule_168 1 rfl
theorem dX11_aRule_170 : decode cX11_aRule 170 = .ok (.iastore, 1) := kq.at kqdX11_aRule_168 2 rfl
theorem dX11_aRule_171 : decode cX11_aRule 171 = .ok (.aload_n 0, 1) := kq.at kqdX11_aRule_168 3 rfl
theorem dX11_aRule_172 : decode cX11_aRule 172 = .ok (.getfield 144, 3) := kq.at kqdX11_aRule_168 4 rfl
theorem dX11_aRule_175 : decode cX11_aRule 175 = .ok (.iconst 3, 1) := kq.at kqdX11_aRule_168 5 rfl
theorem dX11_aRule_176 : decode cX11_aRule 176 = .ok (.if_icmp .ne 90, 3) := kq.at kqdX11_aRule_168 6 rfl
theorem dX11_aRule_179 : decode cX11_aRule 179 = .ok (.aload_n 0, 1) := kq.at kqdX11_aRule_168 7 rfl
theorem dX11_aRule_180 : decode cX11_aRule 180 = .ok (.getfield 141, 3) := kq.at kqdX11_aRule_168 8 rfl
theorem dX11_aRule_183 : decode cX11_aRule 183 = .ok (.iconst 1, 1) := kq.at kqdX11_aRule_168 9 rfl
theorem dX11_aRule_184 : decode cX11_aRule 184 = .ok (.if_icmp .lt 12, 3) := kq.at kqdX11_aRule_168 10 rfl
theorem dX11_aRule_187 : decode cX11_aRule 187 = .ok (.aload_n 0, 1) := kq.at kqdX11_aRule_168 11 rfl
theorem dX11_aRule_188 : decode cX11_aRule 188 = .ok (.getfield 141, 3) := kq.at kqdX11_aRule_168 12 rfl
theorem dX11_aRule_191 : decode cX11_aRule 191 = .ok (.bipush 63, 2) := kq.at kqdX11_aRule_168 13 rfl
theorem dX11_aRule_193 : decode cX11_aRule 193 = .ok (.if_icmp .le 9, 3) := kq.at kqdX11_aRule_168 14 rfl
theorem dX11_aRule_196 : decode cX11_aRule 196 = .ok (.aload_n 0, 1) := kq.at kqdX11_aRule_168 15 rfl
theorem dX11_aRule_197 : decode cX11_aRule 197 = .ok (.iconst 4, 1) := kq.at kqdX11_aRule_168 16 rfl
theorem dX11_aRule_198 : decode cX11_aRule 198 = .ok (.invokevirtual 181, 3) := kq.at kqdX11_aRule_168 17 rfl
theorem dX11_aRule_201 : decode cX11_aRule 201 = .ok (.ireturn, 1) := kq.at kqdX11_aRule_168 18 rfl
theorem dX11_aRule_202 : decode cX11_aRule 202 = .ok (.aload_n 0, 1) := kq.at kqdX11_aRule_168 19 rfl
theorem dX11_aRule_203 : decode cX11_aRule 203 = .ok (.getfield 7, 3) := kq.at kqdX11_aRule_168 20 rfl
theorem dX11_aRule_206 : decode cX11_aRule 206 = .ok (.iload_n 2, 1) := kq.at kqdX11_aRule_168 21 rfl
theorem dX11_aRule_207 : decode cX11_aRule 207 = .ok (.bipush 7, 2) := kq.at kqdX11_aRule_168 22 rfl
theorem dX11_aRule_209 : decode cX11_aRule 209 = .ok (.iadd, 1) := kq.at kqdX11_aRule_168 23 rfl
theorem kqdX11_aRule_210 : kq cX11_aRule [(210, .iaload, 1), (211, .iconst 3, 1), (212, .if_icmp .ne 9, 3), (215, .aload_n 0, 1), (216, .iconst 5, 1), (217, .invokevirtual 181, 3), (220, .ireturn, 1), (221, .aload_n 0, 1), (222, .getfield 7, 3), (225, .iload_n 2, 1), (226, .bipush 7, 2), (228, .iadd, 1), (229, .iconst 1, 1), (230, .iadd, 1), (231, .aload_n 0, 1), (232, .getfield 7, 3), (235, .iload_n 2, 1), (236, .bipush 7, 2), (238, .iadd, 1), (239, .iaload, 1), (240, .iadd, 1), (241, .aload_n 0, 1), (242, .getfield 141, 3), (245, .iastore, 1)] = true := by decide +kernel
theorem dX11_aRule_210 : decode cX11_aRule 210 = .ok (.iaload, 1) := kq.at kqdX11_aRule_210 0 rfl
theorem dX11_aRule_211 : decode cX11_aRule 211 = .ok (.iconst 3, 1) := kq.at kqdX11_aRule_210 1 rfl
theorem dX11_aRule_212 : decode cX11_aRule 212 = .ok (.if_icmp .ne 9, 3) := kq.at kqdX11_aRule_210 2 rfl
theorem dX11_aRule_215 : decode cX11_aRule 215 = .ok (.aload_n 0, 1) := kq.at kqdX11_aRule_210 3 rfl
theorem dX11_aRule_216 : decode cX11_aRule 216 = .ok (.iconst 5, 1) := kq.at kqdX11_aRule_210 4 rfl
theorem dX11_aRule_217 : decode cX11_aRule 217 = .ok (.invokevirtual 181, 3) := kq.at kqdX11_aRule_210 5 rfl
theorem dX11_aRule_220 : decode cX11_aRule 220 = .ok (.ireturn, 1) := kq.at kqdX11_aRule_210 6 rfl
theorem dX11_aRule_221 : decode cX11_aRule 221 = .ok (.aload_n 0, 1) := kq.at kqdX11_aRule_210 7 rfl
theorem dX11_aRule_222 : decode cX11_aRule 222 = .ok (.getfield 7, 3) := kq.at kqdX11_aRule_210 8 rfl
theorem dX11_aRule_225 : decode cX11_aRule 225 = .ok (.iload_n 2, 1) := kq.at kqdX11_aRule_210 9 rfl
theorem dX11_aRule_226 : decode cX11_aRule 226 = .ok (.bipush 7, 2) := kq.at kqdX11_aRule_210 10 rfl
theorem dX11_aRule_228 : decode cX11_aRule 228 = .ok (.iadd, 1) := kq.at kqdX11_aRule_210 11 rfl
theorem dX11_aRule_229 : decode cX11_aRule 229 = .ok (.iconst 1, 1) := kq.at kqdX11_aRule_210 12 rfl
theorem dX11_aRule_230 : decode cX11_aRule 230 = .ok (.iadd, 1) := kq.at kqdX11_aRule_210 13 rfl
theorem dX11_aRule_231 : decode cX11_aRule 231 = .ok (.aload_n 0, 1) := kq.at kqdX11_aRule_210 14 rfl
theorem dX11_aRule_232 : decode cX11_aRule 232 = .ok (.getfield 7, 3) := kq.at kqdX11_aRule_210 15 rfl
theorem dX11_aRule_235 : decode cX11_aRule 235 = .ok (.iload_n 2, 1) := kq.at kqdX11_aRule_210 16 rfl
theorem dX11_aRule_236 : decode cX11_aRule 236 = .ok (.bipush 7, 2) := kq.at kqdX11_aRule_210 17 rfl
theorem dX11_aRule_238 : decode cX11_aRule 238 = .ok (.iadd, 1) := kq.at kqdX11_aRule_210 18 rfl
theorem dX11_aRule_239 : decode cX11_aRule 239 = .ok (.iaload, 1) := kq.at kqdX11_aRule_210 19 rfl
theorem dX11_aRule_240 : decode cX11_aRule 240 = .ok (.iadd, 1) := kq.at kqdX11_aRule_210 20 rfl
theorem dX11_aRule_241 : decode cX11_aRule 241 = .ok (.aload_n 0, 1) := kq.at kqdX11_aRule_210 21 rfl
theorem dX11_aRule_242 : decode cX11_aRule 242 = .ok (.getfield 141, 3) := kq.at kqdX11_aRule_210 22 rfl
theorem dX11_aRule_245 : decode cX11_aRule 245 = .ok (.iastore, 1) := kq.at kqdX11_aRule_210 23 rfl
theorem kqdX11_aRule_246 : kq cX11_aRule [(246, .aload_n 0, 1), (247, .getfield 7, 3), (250, .iload_n 2, 1), (251, .bipush 7, 2), (253, .iadd, 1), (254, .dup2, 1), (255, .iaload, 1), (256, .iconst 1, 1), (257, .iadd, 1), (258, .iastore, 1), (259, .aload_n 0, 1), (260, .invokevirtual 175, 3), (263, .goto (-92), 3), (266, .aload_n 0, 1), (267, .ldc 197, 2), (269, .invokevirtual 184, 3), (272, .istore_n 3, 1), (273, .aload_n 0, 1), (274, .getfield 7, 3), (277, .iload_n 2, 1), (278, .bipush 11, 2), (280, .iadd, 1), (281, .iload_n 3, 1), (282, .bipush 7, 2)] = true := by decide +kernel
theorem dX11_aRule_246 : decode cX11_aRule 246 = .ok (.aload_n 0, 1) := kq.at kqdX11_aRule_246 0 rfl
theorem dX11_aRule_247 : decode cX11_aRule 247 = .ok (.getfield 7, 3) := kq.at kqdX11_aRule_246 1 rfl
theorem dX11_aRule_250 : decode cX11_aRule 250 = .ok (.iload_n 2, 1) := kq.at kqdX11_aRule_246 2 rfl
theorem dX11_aRule_251 : decode cX11_aRule 251 = .ok (.bipush 7, 2) := kq.at kqdX11_aRule_246 3 rfl
theorem dX11_aRule_253 : decode cX11_aRule 253 = .ok (.iadd, 1) := kq.at kqdX11_aRule_246 4 rfl
theorem dX11_aRule_254 : decode cX11_aRule 254 = .ok (.dup2, 1) := kq.at kqdX11_aRule_246 5 rfl
theorem dX11_aRule_255 : decode cX11_aRule 255 = .ok (.iaload, 1) := kq.at kqdX11_aRule_246 6 rfl
theorem dX11_aRule_256 : decode cX11_aRule 256 = .ok (.iconst 1, 1) := kq.at kqdX11_aRule_246 7 rfl
theorem dX11_aRule_257 : decode cX11_aRule 257 = .ok (.iadd, 1) := kq.at kqdX11_aRule_246 8 rfl
theorem dX11_aRule_258 : decode cX11_aRule 258 = .ok (.iastore, 1) := kq.at kqdX11_aRule_246 9 rfl
theorem dX11_aRule_259 : decode cX11_aRule 259 = .ok (.aload_n 0, 1) := kq.at kqdX11_aRule_246 10 rfl
theorem dX11_aRule_260 : decode cX11_aRule 260 = .ok (.invokevirtual 175, 3) := kq.at kqdX11_aRule_246 11 rfl
theorem dX11_aRule_263 : decode cX11_aRule 263 = .ok (.goto (-92), 3) := kq.at kqdX11_aRule_246 12 rfl
theorem dX11_aRule_266 : decode cX11_aRule 266 = .ok (.aload_n 0, 1) := kq.at kqdX11_aRule_246 13 rfl
theorem dX11_aRule_267 : decode cX11_aRule 267 = .ok (.ldc 197, 2) := kq.at kqdX11_aRule_246 14 rfl
theorem dX11_aRule_269 : decode cX11_aRule 269 = .ok (.invokevirtual 184, 3) := kq.at kqdX11_aRule_246 15 rfl
theorem dX11_aRule_272 : decode cX11_aRule 272 = .ok (.istore_n 3, 1) := kq.at kqdX11_aRule_246 16 rfl
theorem dX11_aRule_273 : decode cX11_aRule 273 = .ok (.aload_n 0, 1) := kq.at kqdX11_aRule_246 17 rfl
theorem dX11_aRule_274 : decode cX11_aRule 274 = .ok (.getfield 7, 3) := kq.at kqdX11_aRule_246 18 rfl
theorem dX11_aRule_277 : decode cX11_aRule 277 = .ok (.iload_n 2, 1) := kq.at kqdX11_aRule_246 19 rfl
theorem dX11_aRule_278 : decode cX11_aRule 278 = .ok (.bipush 11, 2) := kq.at kqdX11_aRule_246 20 rfl
theorem dX11_aRule_280 : decode cX11_aRule 280 = .ok (.iadd, 1) := kq.at kqdX11_aRule_246 21 rfl
theorem dX11_aRule_281 : decode cX11_aRule 281 = .ok (.iload_n 3, 1) := kq.at kqdX11_aRule_246 22 rfl
theorem dX11_aRule_282 : decode cX11_aRule 282 = .ok (.bipush 7, 2) := kq.at kqdX11_aRule_246 23 rfl
theorem kqdX11_aRule_284 : kq cX11_aRule [(284, .if_icmp .lt 18, 3), (287, .iload_n 3, 1), (288, .bipush 10, 2), (290, .if_icmp .gt 12, 3), (293, .iload_n 3, 1), (294, .bipush 7, 2), (296, .isub, 1), (297, .iconst 1, 1), (298, .iadd, 1), (299, .goto 4, 3), (302, .iconst 0, 1), (303, .iastore, 1), (304, .aload_n 0, 1), (305, .getfield 7, 3), (308, .iload_n 2, 1), (309, .bipush 11, 2), (311, .iadd, 1), (312, .iaload, 1), (313, .ifCond .le 7, 3), (316, .aload_n 0, 1), (317, .invokevirtual 175, 3), (320, .aload_n 0, 1), (321, .bipush 59, 2), (323, .invokevirtual 178, 3)] = true := by decide +kernel
theorem dX11_aRule_284 : decode cX11_aRule 284 = .ok (.if_icmp .lt 18, 3) := kq.at kqdX11_aRule_284 0 rfl
theorem dX11_aRule_287 : decode cX11_aRule 287 = .ok (.iload_n 3, 1) := kq.at kqdX11_aRule_284 1 rfl
theorem dX11_aRule_288 : decode cX11_aRule 288 = .ok (.bipush 10, 2) := kq.at kqdX11_aRule_284 2 rfl
theorem dX11_aRule_290 : decode cX11_aRule 290 = .ok (.if_icmp .gt 12, 3) := kq.at kqdX11_aRule_284 3 rfl
theorem dX11_aRule_293 : decode cX11_aRule 293 = .ok (.iload_n 3, 1) := kq.at kqdX11_aRule_284 4 rfl
theorem dX11_aRule_294 : decode cX11_aRule 294 = .ok (.bipush 7, 2) := kq.at kqdX11_aRule_284 5 rfl
theorem dX11_aRule_296 : decode cX11_aRule 296 = .ok (.isub, 1) := kq.at kqdX11_aRule_284 6 rfl
theorem dX11_aRule_297 : decode cX11_aRule 297 = .ok (.iconst 1, 1) := kq.at kqdX11_aRule_284 7 rfl
theorem dX11_aRule_298 : decode cX11_aRule 298 = .ok (.iadd, 1) := kq.at kqdX11_aRule_284 8 rfl
theorem dX11_aRule_299 : decode cX11_aRule 299 = .ok (.goto 4, 3) := kq.at kqdX11_aRule_284 9 rfl
theorem dX11_aRule_302 : decode cX11_aRule 302 = .ok (.iconst 0, 1) := kq.at kqdX11_aRule_284 10 rfl
theorem dX11_aRule_303 : decode cX11_aRule 303 = .ok (.iastore, 1) := kq.at kqdX11_aRule_284 11 rfl
theorem dX11_aRule_304 : decode cX11_aRule 304 = .ok (.aload_n 0, 1) := kq.at kqdX11_aRule_284 12 rfl
theorem dX11_aRule_305 : decode cX11_aRule 305 = .ok (.getfield 7, 3) := kq.at kqdX11_aRule_284 13 rfl
theorem dX11_aRule_308 : decode cX11_aRule 308 = .ok (.iload_n 2, 1) := kq.at kqdX11_aRule_284 14 rfl
theorem dX11_aRule_309 : decode cX11_aRule 309 = .ok (.bipush 11, 2) := kq.at kqdX11_aRule_284 15 rfl
theorem dX11_aRule_311 : decode cX11_aRule 311 = .ok (.iadd, 1) := kq.at kqdX11_aRule_284 16 rfl
theorem dX11_aRule_312 : decode cX11_aRule 312 = .ok (.iaload, 1) := kq.at kqdX11_aRule_284 17 rfl
theorem dX11_aRule_313 : decode cX11_aRule 313 = .ok (.ifCond .le 7, 3) := kq.at kqdX11_aRule_284 18 rfl
theorem dX11_aRule_316 : decode cX11_aRule 316 = .ok (.aload_n 0, 1) := kq.at kqdX11_aRule_284 19 rfl
theorem dX11_aRule_317 : decode cX11_aRule 317 = .ok (.invokevirtual 175, 3) := kq.at kqdX11_aRule_284 20 rfl
theorem dX11_aRule_320 : decode cX11_aRule 320 = .ok (.aload_n 0, 1) := kq.at kqdX11_aRule_284 21 rfl
theorem dX11_aRule_321 : decode cX11_aRule 321 = .ok (.bipush 59, 2) := kq.at kqdX11_aRule_284 22 rfl
theorem dX11_aRule_323 : decode cX11_aRule 323 = .ok (.invokevirtual 178, 3) := kq.at kqdX11_aRule_284 23 rfl
theorem kqdX11_aRule_326 : kq cX11_aRule [(326, .ifCond .ne 9, 3), (329, .aload_n 0, 1), (330, .iconst 2, 1), (331, .invokevirtual 181, 3), (334, .ireturn, 1), (335, .iconst 0, 1), (336, .istore 4, 2), (338, .iload 4, 2), (340, .iload_n 1, 1), (341, .if_icmp .ge 31, 3), (344, .aload_n 0, 1), (345, .sipush 13200, 3), (348, .iload 4, 2), (350, .invokestatic 194, 3), (353, .iload_n 2, 1), (354, .invokevirtual 203, 3), (357, .ifCond .eq 9, 3), (360, .aload_n 0, 1), (361, .iconst 3, 1), (362, .invokevirtual 181, 3), (365, .ireturn, 1), (366, .iinc 4 1, 3), (369, .goto (-31), 3), (372, .aload_n 0, 1)] = true := by decide +kernel
theorem dX11_aRule_326 : decode cX11_aRule 326 = .ok (.ifCond .ne 9, 3) := kq.at kqdX11_aRule_326 0 rfl
theorem dX11_aRule_329 : decode cX11_aRule 329 = .ok (.aload_n 0, 1) := kq.at kqdX11_aRule_326 1 rfl
theorem dX11_aRule_330 : decode cX11_aRule 330 = .ok (.iconst 2, 1) := kq.at kqdX11_aRule_326 2 rfl
theorem dX11_aRule_331 : decode cX11_aRule 331 = .ok (.invokevirtual 181, 3) := kq.at kqdX11_aRule_326 3 rfl
theorem dX11_aRule_334 : decode cX11_aRule 334 = .ok (.ireturn, 1) := kq.at kqdX11_aRule_326 4 rfl
theorem dX11_aRule_335 : decode cX11_aRule 335 = .ok (.iconst 0, 1) := kq.at kqdX11_aRule_326 5 rfl
theorem dX11_aRule_336 : decode cX11_aRule 336 = .ok (.istore 4, 2) := kq.at kqdX11_aRule_326 6 rfl
theorem dX11_aRule_338 : decode cX11_aRule 338 = .ok (.iload 4, 2) := kq.at kqdX11_aRule_326 7 rfl
theorem dX11_aRule_340 : decode cX11_aRule 340 = .ok (.iload_n 1, 1) := kq.at kqdX11_aRule_326 8 rfl
theorem dX11_aRule_341 : decode cX11_aRule 341 = .ok (.if_icmp .ge 31, 3) := kq.at kqdX11_aRule_326 9 rfl
theorem dX11_aRule_344 : decode cX11_aRule 344 = .ok (.aload_n 0, 1) := kq.at kqdX11_aRule_326 10 rfl
theorem dX11_aRule_345 : decode cX11_aRule 345 = .ok (.sipush 13200, 3) := kq.at kqdX11_aRule_326 11 rfl
theorem dX11_aRule_348 : decode cX11_aRule 348 = .ok (.iload 4, 2) := kq.at kqdX11_aRule_326 12 rfl
theorem dX11_aRule_350 : decode cX11_aRule 350 = .ok (.invokestatic 194, 3) := kq.at kqdX11_aRule_326 13 rfl
theorem dX11_aRule_353 : decode cX11_aRule 353 = .ok (.iload_n 2, 1) := kq.at kqdX11_aRule_326 14 rfl
theorem dX11_aRule_354 : decode cX11_aRule 354 = .ok (.invokevirtual 203, 3) := kq.at kqdX11_aRule_326 15 rfl
theorem dX11_aRule_357 : decode cX11_aRule 357 = .ok (.ifCond .eq 9, 3) := kq.at kqdX11_aRule_326 16 rfl
theorem dX11_aRule_360 : decode cX11_aRule 360 = .ok (.aload_n 0, 1) := kq.at kqdX11_aRule_326 17 rfl
theorem dX11_aRule_361 : decode cX11_aRule 361 = .ok (.iconst 3, 1) := kq.at kqdX11_aRule_326 18 rfl
theorem dX11_aRule_362 : decode cX11_aRule 362 = .ok (.invokevirtual 181, 3) := kq.at kqdX11_aRule_326 19 rfl
theorem dX11_aRule_365 : decode cX11_aRule 365 = .ok (.ireturn, 1) := kq.at kqdX11_aRule_326 20 rfl
theorem dX11_aRule_366 : decode cX11_aRule 366 = .ok (.iinc 4 1, 3) := kq.at kqdX11_aRule_326 21 rfl
theorem dX11_aRule_369 : decode cX11_aRule 369 = .ok (.goto (-31), 3) := kq.at kqdX11_aRule_326 22 rfl
theorem dX11_aRule_372 : decode cX11_aRule 372 = .ok (.aload_n 0, 1) := kq.at kqdX11_aRule_326 23 rfl
theorem kqdX11_aRule_373 : kq cX11_aRule [(373, .getfield 7, 3), (376, .sipush 13200, 3), (379, .dup2, 1), (380, .iaload, 1), (381, .iconst 1, 1), (382, .iadd, 1), (383, .iastore, 1), (384, .aload_n 0, 1), (385, .bipush 59, 2), (387, .invokevirtual 207, 3), (390, .ireturn, 1)] = true := by decide +kernel
theorem dX11_aRule_373 : decode cX11_aRule 373 = .ok (.getfield 7, 3) := kq.at kqdX11_aRule_373 0 rfl
theorem dX11_aRule_376 : decode cX11_aRule 376 = .ok (.sipush 13200, 3) := kq.at kqdX11_aRule_373 1 rfl
theorem dX11_aRule_379 : decode cX11_aRule 379 = .ok (.dup2, 1) := kq.at kqdX11_aRule_373 2 rfl
theorem dX11_aRule_380 : decode cX11_aRule 380 = .ok (.iaload, 1) := kq.at kqdX11_aRule_373 3 rfl
theorem dX11_aRule_381 : decode cX11_aRule 381 = .ok (.iconst 1, 1) := kq.at kqdX11_aRule_373 4 rfl
theorem dX11_aRule_382 : decode cX11_aRule 382 = .ok (.iadd, 1) := kq.at kqdX11_aRule_373 5 rfl
theorem dX11_aRule_383 : decode cX11_aRule 383 = .ok (.iastore, 1) := kq.at kqdX11_aRule_373 6 rfl
theorem dX11_aRule_384 : decode cX11_aRule 384 = .ok (.aload_n 0, 1) := kq.at kqdX11_aRule_373 7 rfl
theorem dX11_aRule_385 : decode cX11_aRule 385 = .ok (.bipush 59, 2) := kq.at kqdX11_aRule_373 8 rfl
theorem dX11_aRule_387 : decode cX11_aRule 387 = .ok (.invokevirtual 207, 3) := kq.at kqdX11_aRule_373 9 rfl
theorem dX11_aRule_390 : decode cX11_aRule 390 = .ok (.ireturn, 1) := kq.at kqdX11_aRule_373 10 rfl
theorem kqdX11_pressPart_0 : kq cX11_pressPart [(0, .aload_n 0, 1), (1, .ldc 197, 2), (3, .invokevirtual 184, 3), (6, .istore_n 1, 1), (7, .iload_n 1, 1), (8, .ifCond .ne 8, 3), (11, .aload_n 0, 1), (12, .invokevirtual 210, 3), (15, .ireturn, 1), (16, .iload_n 1, 1), (17, .iconst 1, 1), (18, .if_icmp .lt 8, 3), (21, .iload_n 1, 1), (22, .iconst 5, 1), (23, .if_icmp .le 9, 3), (26, .aload_n 0, 1), (27, .iconst 2, 1), (28, .invokevirtual 181, 3), (31, .ireturn, 1), (32, .aload_n 0, 1), (33, .getfield 214, 3), (36, .iload_n 1, 1), (37, .ishr, 1), (38, .iconst 1, 1)] = true := by decide +kernel
theorem dX11_pressPart_0 : decode cX11_pressPart 0 = .ok (.aload_n 0, 1) := kq.at kqdX11_pressPart_0 0 rfl
theorem dX11_pressPart_1 : decode cX11_pressPart 1 = .ok (.ldc 197, 2) := kq.at kqdX11_pressPart_0 1 rfl
theorem dX11_pressPart_3 : decode cX11_pressPart 3 = .ok (.invokevirtual 184, 3) := kq.at kqdX11_pressPart_0 2 rfl
theorem dX11_pressPart_6 : decode cX11_pressPart 6 = .ok (.istore_n 1, 1) := kq.at kqdX11_pressPart_0 3 rfl
theorem dX11_pressPart_7 : decode cX11_pressPart 7 = .ok (.iload_n 1, 1) := kq.at kqdX11_pressPart_0 4 rfl
theorem dX11_pressPart_8 : decode cX11_pressPart 8 = .ok (.ifCond .ne 8, 3) := kq.at kqdX11_pressPart_0 5 rfl
theorem dX11_pressPart_11 : decode cX11_pressPart 11 = .ok (.aload_n 0, 1) := kq.at kqdX11_pressPart_0 6 rfl
theorem dX11_pressPart_12 : decode cX11_pressPart 12 = .ok (.invokevirtual 210, 3) := kq.at kqdX11_pressPart_0 7 rfl
theorem dX11_pressPart_15 : decode cX11_pressPart 15 = .ok (.ireturn, 1) := kq.at kqdX11_pressPart_0 8 rfl
theorem dX11_pressPart_16 : decode cX11_pressPart 16 = .ok (.iload_n 1, 1) := kq.at kqdX11_pressPart_0 9 rfl
theorem dX11_pressPart_17 : decode cX11_pressPart 17 = .ok (.iconst 1, 1) := kq.at kqdX11_pressPart_0 10 rfl
theorem dX11_pressPart_18 : decode cX11_pressPart 18 = .ok (.if_icmp .lt 8, 3) := kq.at kqdX11_pressPart_0 11 rfl
theorem dX11_pressPart_21 : decode cX11_pressPart 21 = .ok (.iload_n 1, 1) := kq.at kqdX11_pressPart_0 12 rfl
theorem dX11_pressPart_22 : decode cX11_pressPart 22 = .ok (.iconst 5, 1) := kq.at kqdX11_pressPart_0 13 rfl
theorem dX11_pressPart_23 : decode cX11_pressPart 23 = .ok (.if_icmp .le 9, 3) := kq.at kqdX11_pressPart_0 14 rfl
theorem dX11_pressPart_26 : decode cX11_pressPart 26 = .ok (.aload_n 0, 1) := kq.at kqdX11_pressPart_0 15 rfl
theorem dX11_pressPart_27 : decode cX11_pressPart 27 = .ok (.iconst 2, 1) := kq.at kqdX11_pressPart_0 16 rfl
theorem dX11_pressPart_28 : decode cX11_pressPart 28 = .ok (.invokevirtual 181, 3) := kq.at kqdX11_pressPart_0 17 rfl
theorem dX11_pressPart_31 : decode cX11_pressPart 31 = .ok (.ireturn, 1) := kq.at kqdX11_pressPart_0 18 rfl
theorem dX11_pressPart_32 : decode cX11_pressPart 32 = .ok (.aload_n 0, 1) := kq.at kqdX11_pressPart_0 19 rfl
theorem dX11_pressPart_33 : decode cX11_pressPart 33 = .ok (.getfield 214, 3) := kq.at kqdX11_pressPart_0 20 rfl
theorem dX11_pressPart_36 : decode cX11_pressPart 36 = .ok (.iload_n 1, 1) := kq.at kqdX11_pressPart_0 21 rfl
theorem dX11_pressPart_37 : decode cX11_pressPart 37 = .ok (.ishr, 1) := kq.at kqdX11_pressPart_0 22 rfl
theorem dX11_pressPart_38 : decode cX11_pressPart 38 = .ok (.iconst 1, 1) := kq.at kqdX11_pressPart_0 23 rfl
theorem kqdX11_pressPart_39 : kq cX11_pressPart [(39, .iand, 1), (40, .iconst 1, 1), (41, .if_icmp .ne 9, 3), (44, .aload_n 0, 1), (45, .iconst 5, 1), (46, .invokevirtual 181, 3), (49, .ireturn, 1), (50, .aload_n 0, 1), (51, .dup, 1), (52, .getfield 214, 3), (55, .iconst 1, 1), (56, .iload_n 1, 1), (57, .ishl, 1), (58, .ior, 1), (59, .putfield 214, 3), (62, .aload_n 0, 1), (63, .invokevirtual 175, 3), (66, .iload_n 1, 1), (67, .iconst 4, 1), (68, .if_icmp .ne 19, 3), (71, .aload_n 0, 1), (72, .sipush 13204, 3), (75, .iconst 4, 1), (76, .bipush 40, 2)] = true := by decide +kernel
theorem dX11_pressPart_39 : decode cX11_pressPart 39 = .ok (.iand, 1) := kq.at kqdX11_pressPart_39 0 rfl
theorem dX11_pressPart_40 : decode cX11_pressPart 40 = .ok (.iconst 1, 1) := kq.at kqdX11_pressPart_39 1 rfl
theorem dX11_pressPart_41 : decode cX11_pressPart 41 = .ok (.if_icmp .ne 9, 3) := kq.at kqdX11_pressPart_39 2 rfl
theorem dX11_pressPart_44 : decode cX11_pressPart 44 = .ok (.aload_n 0, 1) := kq.at kqdX11_pressPart_39 3 rfl
theorem dX11_pressPart_45 : decode cX11_pressPart 45 = .ok (.iconst 5, 1) := kq.at kqdX11_pressPart_39 4 rfl
theorem dX11_pressPart_46 : decode cX11_pressPart 46 = .ok (.invokevirtual 181, 3) := kq.at kqdX11_pressPart_39 5 rfl
theorem dX11_pressPart_49 : decode cX11_pressPart 49 = .ok (.ireturn, 1) := kq.at kqdX11_pressPart_39 6 rfl
theorem dX11_pressPart_50 : decode cX11_pressPart 50 = .ok (.aload_n 0, 1) := kq.at kqdX11_pressPart_39 7 rfl
theorem dX11_pressPart_51 : decode cX11_pressPart 51 = .ok (.dup, 1) := kq.at kqdX11_pressPart_39 8 rfl
theorem dX11_pressPart_52 : decode cX11_pressPart 52 = .ok (.getfield 214, 3) := kq.at kqdX11_pressPart_39 9 rfl
theorem dX11_pressPart_55 : decode cX11_pressPart 55 = .ok (.iconst 1, 1) := kq.at kqdX11_pressPart_39 10 rfl
theorem dX11_pressPart_56 : decode cX11_pressPart 56 = .ok (.iload_n 1, 1) := kq.at kqdX11_pressPart_39 11 rfl
theorem dX11_pressPart_57 : decode cX11_pressPart 57 = .ok (.ishl, 1) := kq.at kqdX11_pressPart_39 12 rfl
theorem dX11_pressPart_58 : decode cX11_pressPart 58 = .ok (.ior, 1) := kq.at kqdX11_pressPart_39 13 rfl
theorem dX11_pressPart_59 : decode cX11_pressPart 59 = .ok (.putfield 214, 3) := kq.at kqdX11_pressPart_39 14 rfl
theorem dX11_pressPart_62 : decode cX11_pressPart 62 = .ok (.aload_n 0, 1) := kq.at kqdX11_pressPart_39 15 rfl
theorem dX11_pressPart_63 : decode cX11_pressPart 63 = .ok (.invokevirtual 175, 3) := kq.at kqdX11_pressPart_39 16 rfl
theorem dX11_pressPart_66 : decode cX11_pressPart 66 = .ok (.iload_n 1, 1) := kq.at kqdX11_pressPart_39 17 rfl
theorem dX11_pressPart_67 : decode cX11_pressPart 67 = .ok (.iconst 4, 1) := kq.at kqdX11_pressPart_39 18 rfl
theorem dX11_pressPart_68 : decode cX11_pressPart 68 = .ok (.if_icmp .ne 19, 3) := kq.at kqdX11_pressPart_39 19 rfl
theorem dX11_pressPart_71 : decode cX11_pressPart 71 = .ok (.aload_n 0, 1) := kq.at kqdX11_pressPart_39 20 rfl
theorem dX11_pressPart_72 : decode cX11_pressPart 72 = .ok (.sipush 13204, 3) := kq.at kqdX11_pressPart_39 21 rfl
theorem dX11_pressPart_75 : decode cX11_pressPart 75 = .ok (.iconst 4, 1) := kq.at kqdX11_pressPart_39 22 rfl
theorem dX11_pressPart_76 : decode cX11_pressPart 76 = .ok (.bipush 40, 2) := kq.at kqdX11_pressPart_39 23 rfl
theorem kqdX11_pressPart_78 : kq cX11_pressPart [(78, .invokevirtual 217, 3), (81, .ifCond .eq 55, 3), (84, .goto 39, 3), (87, .iload_n 1, 1), (88, .iconst 5, 1), (89, .if_icmp .ne 19, 3), (92, .aload_n 0, 1), (93, .sipush 13205, 3), (96, .iconst 2, 1), (97, .bipush 30, 2), (99, .invokevirtual 217, 3), (102, .ifCond .eq 34, 3), (105, .goto 18, 3), (108, .aload_n 0, 1), (109, .sipush 13200, 3), (112, .iload_n 1, 1), (113, .iadd, 1), (114, .iconst 1, 1), (115, .bipush 63, 2), (117, .invokevirtual 217, 3), (120, .ifCond .eq 16, 3), (123, .aload_n 0, 1), (124, .bipush 59, 2), (126, .invokevirtual 207, 3)] = true := by decide +kernel
theorem dX11_pressPart_78 : decode cX11_pressPart 78 = .ok (.invokevirtual 217, 3) := kq.at kqdX11_pressPart_78 0 rfl
theorem dX11_pressPart_81 : decode cX11_pressPart 81 = .ok (.ifCond .eq 55, 3) := kq.at kqdX11_pressPart_78 1 rfl
theorem dX11_pressPart_84 : decode cX11_pressPart 84 = .ok (.goto 39, 3) := kq.at kqdX11_pressPart_78 2 rfl
theorem dX11_pressPart_87 : decode cX11_pressPart 87 = .ok (.iload_n 1, 1) := kq.at kqdX11_pressPart_78 3 rfl
theorem dX11_pressPart_88 : decode cX11_pressPart 88 = .ok (.iconst 5, 1) := kq.at kqdX11_pressPart_78 4 rfl
theorem dX11_pressPart_89 : decode cX11_pressPart 89 = .ok (.if_icmp .ne 19, 3) := kq.at kqdX11_pressPart_78 5 rfl
theorem dX11_pressPart_92 : decode cX11_pressPart 92 = .ok (.aload_n 0, 1) := kq.at kqdX11_pressPart_78 6 rfl
theorem dX11_pressPart_93 : decode cX11_pressPart 93 = .ok (.sipush 13205, 3) := kq.at kqdX11_pressPart_78 7 rfl
theorem dX11_pressPart_96 : decode cX11_pressPart 96 = .ok (.iconst 2, 1) := kq.at kqdX11_pressPart_78 8 rfl
theorem dX11_pressPart_97 : decode cX11_pressPart 97 = .ok (.bipush 30, 2) := kq.at kqdX11_pressPart_78 9 rfl
theorem dX11_pressPart_99 : decode cX11_pressPart 99 = .ok (.invokevirtual 217, 3) := kq.at kqdX11_pressPart_78 10 rfl
theorem dX11_pressPart_102 : decode cX11_pressPart 102 = .ok (.ifCond .eq 34, 3) := kq.at kqdX11_pressPart_78 11 rfl
theorem dX11_pressPart_105 : decode cX11_pressPart 105 = .ok (.goto 18, 3) := kq.at kqdX11_pressPart_78 12 rfl
theorem dX11_pressPart_108 : decode cX11_pressPart 108 = .ok (.aload_n 0, 1) := kq.at kqdX11_pressPart_78 13 rfl
theorem dX11_pressPart_109 : decode cX11_pressPart 109 = .ok (.sipush 13200, 3) := kq.at kqdX11_pressPart_78 14 rfl
theorem dX11_pressPart_112 : decode cX11_pressPart 112 = .ok (.iload_n 1, 1) := kq.at kqdX11_pressPart_78 15 rfl
theorem dX11_pressPart_113 : decode cX11_pressPart 113 = .ok (.iadd, 1) := kq.at kqdX11_pressPart_78 16 rfl
theorem dX11_pressPart_114 : decode cX11_pressPart 114 = .ok (.iconst 1, 1) := kq.at kqdX11_pressPart_78 17 rfl
theorem dX11_pressPart_115 : decode cX11_pressPart 115 = .ok (.bipush 63, 2) := kq.at kqdX11_pressPart_78 18 rfl
theorem dX11_pressPart_117 : decode cX11_pressPart 117 = .ok (.invokevirtual 217, 3) := kq.at kqdX11_pressPart_78 19 rfl
theorem dX11_pressPart_120 : decode cX11_pressPart 120 = .ok (.ifCond .eq 16, 3) := kq.at kqdX11_pressPart_78 20 rfl
theorem dX11_pressPart_123 : decode cX11_pressPart 123 = .ok (.aload_n 0, 1) := kq.at kqdX11_pressPart_78 21 rfl
theorem dX11_pressPart_124 : decode cX11_pressPart 124 = .ok (.bipush 59, 2) := kq.at kqdX11_pressPart_78 22 rfl
theorem dX11_pressPart_126 : decode cX11_pressPart 126 = .ok (.invokevirtual 207, 3) := kq.at kqdX11_pressPart_78 23 rfl
theorem kqdX11_pressPart_129 : kq cX11_pressPart [(129, .ifCond .eq 7, 3), (132, .iconst 1, 1), (133, .goto 4, 3), (136, .iconst 0, 1), (137, .ireturn, 1)] = true := by decide +kernel
theorem dX11_pressPart_129 : decode cX11_pressPart 129 = .ok (.ifCond .eq 7, 3) := kq.at kqdX11_pressPart_129 0 rfl
theorem dX11_pressPart_132 : decode cX11_pressPart 132 = .ok (.iconst 1, 1) := kq.at kqdX11_pressPart_129 1 rfl
theorem dX11_pressPart_133 : decode cX11_pressPart 133 = .ok (.goto 4, 3) := kq.at kqdX11_pressPart_129 2 rfl
theorem dX11_pressPart_136 : decode cX11_pressPart 136 = .ok (.iconst 0, 1) := kq.at kqdX11_pressPart_129 3 rfl
theorem dX11_pressPart_137 : decode cX11_pressPart 137 = .ok (.ireturn, 1) := kq.at kqdX11_pressPart_129 4 rfl
theorem kqdX11_press_0 : kq cX11_press [(0, .aload_n 0, 1), (1, .iload_n 1, 1), (2, .sipush 900, 3), (5, .invokevirtual 221, 3), (8, .ifCond .ne 9, 3), (11, .aload_n 0, 1), (12, .iconst 1, 1), (13, .invokevirtual 188, 3), (16, .ireturn, 1), (17, .aload_n 0, 1), (18, .sipush 13200, 3), (21, .invokevirtual 95, 3), (24, .aload_n 0, 1), (25, .iconst 0, 1), (26, .putfield 214, 3), (29, .iconst 1, 1), (30, .istore_n 2, 1), (31, .iload_n 2, 1), (32, .ifCond .eq 18, 3), (35, .aload_n 0, 1), (36, .getfield 144, 3), (39, .ifCond .eq 11, 3), (42, .aload_n 0, 1), (43, .invokevirtual 224, 3)] = true := by decide +kernel
theorem dX11_press_0 : decode cX11_press 0 = .ok (.aload_n 0, 1) := kq.at kqdX11_press_0 0 rfl
theorem dX11_press_1 : decode cX11_press 1 = .ok (.iload_n 1, 1) := kq.at kqdX11_press_0 1 rfl
theorem dX11_press_2 : decode cX11_press 2 = .ok (.sipush 900, 3) := kq.at kqdX11_press_0 2 rfl
theorem dX11_press_5 : decode cX11_press 5 = .ok (.invokevirtual 221, 3) := kq.at kqdX11_press_0 3 rfl
theorem dX11_press_8 : decode cX11_press 8 = .ok (.ifCond .ne 9, 3) := kq.at kqdX11_press_0 4 rfl
theorem dX11_press_11 : decode cX11_press 11 = .ok (.aload_n 0, 1) := kq.at kqdX11_press_0 5 rfl
theorem dX11_press_12 : decode cX11_press 12 = .ok (.iconst 1, 1) := kq.at kqdX11_press_0 6 rfl
theorem dX11_press_13 : decode cX11_press 13 = .ok (.invokevirtual 188, 3) := kq.at kqdX11_press_0 7 rfl
theorem dX11_press_16 : decode cX11_press 16 = .ok (.ireturn, 1) := kq.at kqdX11_press_0 8 rfl
theorem dX11_press_17 : decode cX11_press 17 = .ok (.aload_n 0, 1) := kq.at kqdX11_press_0 9 rfl
theorem dX11_press_18 : decode cX11_press 18 = .ok (.sipush 13200, 3) := kq.at kqdX11_press_0 10 rfl
theorem dX11_press_21 : decode cX11_press 21 = .ok (.invokevirtual 95, 3) := kq.at kqdX11_press_0 11 rfl
theorem dX11_press_24 : decode cX11_press 24 = .ok (.aload_n 0, 1) := kq.at kqdX11_press_0 12 rfl
theorem dX11_press_25 : decode cX11_press 25 = .ok (.iconst 0, 1) := kq.at kqdX11_press_0 13 rfl
theorem dX11_press_26 : decode cX11_press 26 = .ok (.putfield 214, 3) := kq.at kqdX11_press_0 14 rfl
theorem dX11_press_29 : decode cX11_press 29 = .ok (.iconst 1, 1) := kq.at kqdX11_press_0 15 rfl
theorem dX11_press_30 : decode cX11_press 30 = .ok (.istore_n 2, 1) := kq.at kqdX11_press_0 16 rfl
theorem dX11_press_31 : decode cX11_press 31 = .ok (.iload_n 2, 1) := kq.at kqdX11_press_0 17 rfl
theorem dX11_press_32 : decode cX11_press 32 = .ok (.ifCond .eq 18, 3) := kq.at kqdX11_press_0 18 rfl
theorem dX11_press_35 : decode cX11_press 35 = .ok (.aload_n 0, 1) := kq.at kqdX11_press_0 19 rfl
theorem dX11_press_36 : decode cX11_press 36 = .ok (.getfield 144, 3) := kq.at kqdX11_press_0 20 rfl
theorem dX11_press_39 : decode cX11_press 39 = .ok (.ifCond .eq 11, 3) := kq.at kqdX11_press_0 21 rfl
theorem dX11_press_42 : decode cX11_press 42 = .ok (.aload_n 0, 1) := kq.at kqdX11_press_0 22 rfl
theorem dX11_press_43 : decode cX11_press 43 = .ok (.invokevirtual 224, 3) := kq.at kqdX11_press_0 23 rfl
theorem kqdX11_press_46 : kq cX11_press [(46, .istore_n 2, 1), (47, .goto (-16), 3), (50, .aload_n 0, 1), (51, .getfield 169, 3), (54, .ifCond .ne 34, 3), (57, .iconst 0, 1), (58, .istore_n 3, 1), (59, .iload_n 3, 1), (60, .sipush 3300, 3), (63, .if_icmp .ge 25, 3), (66, .aload_n 0, 1), (67, .getfield 7, 3), (70, .iload_n 3, 1), (71, .aload_n 0, 1), (72, .getfield 7, 3), (75, .sipush 13200, 3), (78, .iload_n 3, 1), (79, .iadd, 1), (80, .iaload, 1), (81, .iastore, 1), (82, .iinc 3 1, 3), (85, .goto (-26), 3), (88, .aload_n 0, 1), (89, .aload_n 0, 1)] = true := by decide +kernel
theorem dX11_press_46 : decode cX11_press 46 = .ok (.istore_n 2, 1) := kq.at kqdX11_press_46 0 rfl
theorem dX11_press_47 : decode cX11_press 47 = .ok (.goto (-16), 3) := kq.at kqdX11_press_46 1 rfl
theorem dX11_press_50 : decode cX11_press 50 = .ok (.aload_n 0, 1) := kq.at kqdX11_press_46 2 rfl
theorem dX11_press_51 : decode cX11_press 51 = .ok (.getfield 169, 3) := kq.at kqdX11_press_46 3 rfl
theorem dX11_press_54 : decode cX11_press 54 = .ok (.ifCond .ne 34, 3) := kq.at kqdX11_press_46 4 rfl
theorem dX11_press_57 : decode cX11_press 57 = .ok (.iconst 0, 1) := kq.at kqdX11_press_46 5 rfl
theorem dX11_press_58 : decode cX11_press 58 = .ok (.istore_n 3, 1) := kq.at kqdX11_press_46 6 rfl
theorem dX11_press_59 : decode cX11_press 59 = .ok (.iload_n 3, 1) := kq.at kqdX11_press_46 7 rfl
theorem dX11_press_60 : decode cX11_press 60 = .ok (.sipush 3300, 3) := kq.at kqdX11_press_46 8 rfl
theorem dX11_press_63 : decode cX11_press 63 = .ok (.if_icmp .ge 25, 3) := kq.at kqdX11_press_46 9 rfl
theorem dX11_press_66 : decode cX11_press 66 = .ok (.aload_n 0, 1) := kq.at kqdX11_press_46 10 rfl
theorem dX11_press_67 : decode cX11_press 67 = .ok (.getfield 7, 3) := kq.at kqdX11_press_46 11 rfl
theorem dX11_press_70 : decode cX11_press 70 = .ok (.iload_n 3, 1) := kq.at kqdX11_press_46 12 rfl
theorem dX11_press_71 : decode cX11_press 71 = .ok (.aload_n 0, 1) := kq.at kqdX11_press_46 13 rfl
theorem dX11_press_72 : decode cX11_press 72 = .ok (.getfield 7, 3) := kq.at kqdX11_press_46 14 rfl
theorem dX11_press_75 : decode cX11_press 75 = .ok (.sipush 13200, 3) := kq.at kqdX11_press_46 15 rfl
theorem dX11_press_78 : decode cX11_press 78 = .ok (.iload_n 3, 1) := kq.at kqdX11_press_46 16 rfl
theorem dX11_press_79 : decode cX11_press 79 = .ok (.iadd, 1) := kq.at kqdX11_press_46 17 rfl
theorem dX11_press_80 : decode cX11_press 80 = .ok (.iaload, 1) := kq.at kqdX11_press_46 18 rfl
theorem dX11_press_81 : decode cX11_press 81 = .ok (.iastore, 1) := kq.at kqdX11_press_46 19 rfl
theorem dX11_press_82 : decode cX11_press 82 = .ok (.iinc 3 1, 3) := kq.at kqdX11_press_46 20 rfl
theorem dX11_press_85 : decode cX11_press 85 = .ok (.goto (-26), 3) := kq.at kqdX11_press_46 21 rfl
theorem dX11_press_88 : decode cX11_press 88 = .ok (.aload_n 0, 1) := kq.at kqdX11_press_46 22 rfl
theorem dX11_press_89 : decode cX11_press 89 = .ok (.aload_n 0, 1) := kq.at kqdX11_press_46 23 rfl
theorem kqdX11_press_90 : kq cX11_press [(90, .getfield 7, 3), (93, .iconst 0, 1), (94, .iaload, 1), (95, .invokevirtual 227, 3), (98, .ireturn, 1)] = true := by decide +kernel
theorem dX11_press_90 : decode cX11_press 90 = .ok (.getfield 7, 3) := kq.at kqdX11_press_90 0 rfl
theorem dX11_press_93 : decode cX11_press 93 = .ok (.iconst 0, 1) := kq.at kqdX11_press_90 1 rfl
theorem dX11_press_94 : decode cX11_press 94 = .ok (.iaload, 1) := kq.at kqdX11_press_90 2 rfl
theorem dX11_press_95 : decode cX11_press 95 = .ok (.invokevirtual 227, 3) := kq.at kqdX11_press_90 3 rfl
theorem dX11_press_98 : decode cX11_press 98 = .ok (.ireturn, 1) := kq.at kqdX11_press_90 4 rfl
theorem kqdX11_isBad_0 : kq cX11_isBad [(0, .aload_n 0, 1), (1, .iload_n 1, 1), (2, .putfield 230, 3), (5, .aload_n 0, 1), (6, .iload_n 2, 1), (7, .putfield 233, 3), (10, .iconst 0, 1), (11, .ireturn, 1)] = true := by decide +kernel
theorem dX11_isBad_0 : decode cX11_isBad 0 = .ok (.aload_n 0, 1) := kq.at kqdX11_isBad_0 0 rfl
theorem dX11_isBad_1 : decode cX11_isBad 1 = .ok (.iload_n 1, 1) := kq.at kqdX11_isBad_0 1 rfl
theorem dX11_isBad_2 : decode cX11_isBad 2 = .ok (.putfield 230, 3) := kq.at kqdX11_isBad_0 2 rfl
theorem dX11_isBad_5 : decode cX11_isBad 5 = .ok (.aload_n 0, 1) := kq.at kqdX11_isBad_0 3 rfl
theorem dX11_isBad_6 : decode cX11_isBad 6 = .ok (.iload_n 2, 1) := kq.at kqdX11_isBad_0 4 rfl
theorem dX11_isBad_7 : decode cX11_isBad 7 = .ok (.putfield 233, 3) := kq.at kqdX11_isBad_0 5 rfl
theorem dX11_isBad_10 : decode cX11_isBad 10 = .ok (.iconst 0, 1) := kq.at kqdX11_isBad_0 6 rfl
theorem dX11_isBad_11 : decode cX11_isBad 11 = .ok (.ireturn, 1) := kq.at kqdX11_isBad_0 7 rfl
theorem kqdX11_byteOf_0 : kq cX11_byteOf [(0, .iload_n 1, 1), (1, .aload_n 0, 1), (2, .getfield 7, 3), (5, .sipush 16507, 3), (8, .iaload, 1), (9, .if_icmp .ge 16, 3), (12, .aload_n 0, 1), (13, .getfield 7, 3), (16, .sipush 16800, 3), (19, .iload_n 1, 1)] = true := by decide +kernel
theorem dX11_byteOf_0 : decode cX11_byteOf 0 = .ok (.iload_n 1, 1) := kq.at kqdX11_byteOf_0 0 rfl
theorem dX11_byteOf_1 : decode cX11_byteOf 1 = .ok (.aload_n 0, 1) := kq.at kqdX11_byteOf_0 1 rfl
theorem dX11_byteOf_2 : decode cX11_byteOf 2 = .ok (.getfield 7, 3) := kq.at kqdX11_byteOf_0 2 rfl
theorem dX11_byteOf_5 : decode cX11_byteOf 5 = .ok (.sipush 16507, 3) := kq.at kqdX11_byteOf_0 3 rfl
theorem dX11_byteOf_8 : decode cX11_byteOf 8 = .ok (.iaload, 1) := kq.at kqdX11_byteOf_0 4 rfl
theorem dX11_byteOf_9 : decode cX11_byteOf 9 = .ok (.if_icmp .ge 16, 3) := kq.at kqdX11_byteOf_0 5 rfl
theorem dX11_byteOf_12 : decode cX11_byteOf 12 = .ok (.aload_n 0, 1) := kq.at kqdX11_byteOf_0 6 rfl
theorem dX11_byteOf_13 : decode cX11_byteOf 13 = .ok (.getfield 7, 3) := kq.at kqdX11_byteOf_0 7 rfl
theorem dX11_byteOf_16 : decode cX11_byteOf 16 = .ok (.sipush 16800, 3) := kq.at kqdX11_byteOf_0 8 rfl
theorem dX11_byteOf_19 : decode cX11_byteOf 19 = .ok (.iload_n 1, 1) := kq.at kqdX11_byteOf_0 9 rfl
