theorem dX10_alike_22 : decode cX10_alike 22 = .ok (.ireturn, 1) := by decide +kernel
theorem dX10_alike_23 : decode cX10_alike 23 = .ok (.aload_n 0, 1) := by decide +kernel
theorem dX10_alike_24 : decode cX10_alike 24 = .ok (.getfield 78, 3) := by decide +kernel
theorem dX10_alike_27 : decode cX10_alike 27 = .ok (.iload_n 1, 1) := by decide +kernel
theorem dX10_alike_28 : decode cX10_alike 28 = .ok (.invokevirtual 265, 3) := by decide +kernel
theorem dX10_alike_31 : decode cX10_alike 31 = .ok (.aload_n 0, 1) := by decide +kernel
theorem dX10_alike_32 : decode cX10_alike 32 = .ok (.getfield 78, 3) := by decide +kernel
theorem dX10_alike_35 : decode cX10_alike 35 = .ok (.iload_n 2, 1) := by decide +kernel
theorem dX10_alike_36 : decode cX10_alike 36 = .ok (.invokevirtual 265, 3) := by decide +kernel
theorem dX10_alike_39 : decode cX10_alike 39 = .ok (.invokestatic 319, 3) := by decide +kernel
theorem dX10_alike_42 : decode cX10_alike 42 = .ok (.istore_n 3, 1) := by decide +kernel
theorem dX10_alike_43 : decode cX10_alike 43 = .ok (.iconst 0, 1) := by decide +kernel
theorem dX10_alike_44 : decode cX10_alike 44 = .ok (.istore 4, 2) := by decide +kernel
theorem dX10_alike_46 : decode cX10_alike 46 = .ok (.iconst 0, 1) := by decide +kernel
theorem dX10_alike_47 : decode cX10_alike 47 = .ok (.istore 5, 2) := by decide +kernel
theorem dX10_alike_49 : decode cX10_alike 49 = .ok (.iload 5, 2) := by decide +kernel
theorem dX10_alike_51 : decode cX10_alike 51 = .ok (.iload_n 3, 1) := by decide +kernel
theorem dX10_alike_52 : decode cX10_alike 52 = .ok (.if_icmp .ge 29, 3) := by decide +kernel
theorem dX10_alike_55 : decode cX10_alike 55 = .ok (.aload_n 0, 1) := by decide +kernel
theorem dX10_alike_56 : decode cX10_alike 56 = .ok (.iload_n 1, 1) := by decide +kernel
theorem dX10_alike_57 : decode cX10_alike 57 = .ok (.iload 5, 2) := by decide +kernel
theorem dX10_alike_59 : decode cX10_alike 59 = .ok (.invokevirtual 268, 3) := by decide +kernel
theorem dX10_alike_62 : decode cX10_alike 62 = .ok (.aload_n 0, 1) := by decide +kernel
theorem dX10_alike_63 : decode cX10_alike 63 = .ok (.iload_n 2, 1) := by decide +kernel
theorem dX10_alike_64 : decode cX10_alike 64 = .ok (.iload 5, 2) := by decide +kernel
theorem dX10_alike_66 : decode cX10_alike 66 = .ok (.invokevirtual 268, 3) := by decide +kernel
theorem dX10_alike_69 : decode cX10_alike 69 = .ok (.if_icmp .ne 6, 3) := by decide +kernel
theorem dX10_alike_72 : decode cX10_alike 72 = .ok (.iinc 4 1, 3) := by decide +kernel
theorem dX10_alike_75 : decode cX10_alike 75 = .ok (.iinc 5 1, 3) := by decide +kernel
theorem dX10_alike_78 : decode cX10_alike 78 = .ok (.goto (-29), 3) := by decide +kernel
theorem dX10_alike_81 : decode cX10_alike 81 = .ok (.aload_n 0, 1) := by decide +kernel
theorem dX10_alike_82 : decode cX10_alike 82 = .ok (.iload 4, 2) := by decide +kernel
theorem dX10_alike_84 : decode cX10_alike 84 = .ok (.invokevirtual 113, 3) := by decide +kernel
theorem dX10_alike_87 : decode cX10_alike 87 = .ok (.ireturn, 1) := by decide +kernel
theorem dX10_longest_0 : decode cX10_longest 0 = .ok (.aload_n 0, 1) := by decide +kernel
theorem dX10_longest_1 : decode cX10_longest 1 = .ok (.getfield 61, 3) := by decide +kernel
theorem dX10_longest_4 : decode cX10_longest 4 = .ok (.ifCond .eq 13, 3) := by decide +kernel
theorem dX10_longest_7 : decode cX10_longest 7 = .ok (.aload_n 0, 1) := by decide +kernel
theorem dX10_longest_8 : decode cX10_longest 8 = .ok (.getfield 78, 3) := by decide +kernel
theorem dX10_longest_11 : decode cX10_longest 11 = .ok (.getfield 245, 3) := by decide +kernel
theorem dX10_longest_14 : decode cX10_longest 14 = .ok (.ifCond .ne 10, 3) := by decide +kernel
theorem dX10_longest_17 : decode cX10_longest 17 = .ok (.aload_n 0, 1) := by decide +kernel
theorem dX10_longest_18 : decode cX10_longest 18 = .ok (.bipush 6, 2) := by decide +kernel
theorem dX10_longest_20 : decode cX10_longest 20 = .ok (.invokevirtual 117, 3) := by decide +kernel
theorem dX10_longest_23 : decode cX10_longest 23 = .ok (.ireturn, 1) := by decide +kernel
theorem dX10_longest_24 : decode cX10_longest 24 = .ok (.aload_n 0, 1) := by decide +kernel
theorem dX10_longest_25 : decode cX10_longest 25 = .ok (.aload_n 0, 1) := by decide +kernel
theorem dX10_longest_26 : decode cX10_longest 26 = .ok (.getfield 78, 3) := by decide +kernel
theorem dX10_longest_29 : decode cX10_longest 29 = .ok (.invokevirtual 322, 3) := by decide +kernel
theorem dX10_longest_32 : decode cX10_longest 32 = .ok (.invokevirtual 113, 3) := by decide +kernel
theorem dX10_longest_35 : decode cX10_longest 35 = .ok (.ireturn, 1) := by decide +kernel
theorem dX10_inLine_0 : decode cX10_inLine 0 = .ok (.aload_n 0, 1) := by decide +kernel
theorem dX10_inLine_1 : decode cX10_inLine 1 = .ok (.iload_n 1, 1) := by decide +kernel
theorem dX10_inLine_2 : decode cX10_inLine 2 = .ok (.invokevirtual 262, 3) := by decide +kernel
theorem dX10_inLine_5 : decode cX10_inLine 5 = .ok (.ifCond .ne 10, 3) := by decide +kernel
theorem dX10_inLine_8 : decode cX10_inLine 8 = .ok (.aload_n 0, 1) := by decide +kernel
theorem dX10_inLine_9 : decode cX10_inLine 9 = .ok (.bipush 6, 2) := by decide +kernel
theorem dX10_inLine_11 : decode cX10_inLine 11 = .ok (.invokevirtual 117, 3) := by decide +kernel
theorem dX10_inLine_14 : decode cX10_inLine 14 = .ok (.ireturn, 1) := by decide +kernel
theorem dX10_inLine_15 : decode cX10_inLine 15 = .ok (.iconst 1, 1) := by decide +kernel
theorem dX10_inLine_16 : decode cX10_inLine 16 = .ok (.istore_n 2, 1) := by decide +kernel
theorem dX10_inLine_17 : decode cX10_inLine 17 = .ok (.iconst 0, 1) := by decide +kernel
theorem dX10_inLine_18 : decode cX10_inLine 18 = .ok (.istore_n 3, 1) := by decide +kernel
theorem dX10_inLine_19 : decode cX10_inLine 19 = .ok (.iload_n 3, 1) := by decide +kernel
theorem dX10_inLine_20 : decode cX10_inLine 20 = .ok (.aload_n 0, 1) := by decide +kernel
theorem dX10_inLine_21 : decode cX10_inLine 21 = .ok (.getfield 78, 3) := by decide +kernel
theorem dX10_inLine_24 : decode cX10_inLine 24 = .ok (.getfield 271, 3) := by decide +kernel
theorem dX10_inLine_27 : decode cX10_inLine 27 = .ok (.iload_n 1, 1) := by decide +kernel
theorem dX10_inLine_28 : decode cX10_inLine 28 = .ok (.iaload, 1) := by decide +kernel
theorem dX10_inLine_29 : decode cX10_inLine 29 = .ok (.if_icmp .ge 21, 3) := by decide +kernel
theorem dX10_inLine_32 : decode cX10_inLine 32 = .ok (.aload_n 0, 1) := by decide +kernel
theorem dX10_inLine_33 : decode cX10_inLine 33 = .ok (.iload_n 1, 1) := by decide +kernel
theorem dX10_inLine_34 : decode cX10_inLine 34 = .ok (.iload_n 3, 1) := by decide +kernel
theorem dX10_inLine_35 : decode cX10_inLine 35 = .ok (.invokevirtual 268, 3) := by decide +kernel
theorem dX10_inLine_38 : decode cX10_inLine 38 = .ok (.ifCond .ne 6, 3) := by decide +kernel
theorem dX10_inLine_41 : decode cX10_inLine 41 = .ok (.iinc 2 1, 3) := by decide +kernel
theorem dX10_inLine_44 : decode cX10_inLine 44 = .ok (.iinc 3 1, 3) := by decide +kernel
theorem dX10_inLine_47 : decode cX10_inLine 47 = .ok (.goto (-28), 3) := by decide +kernel
theorem dX10_inLine_50 : decode cX10_inLine 50 = .ok (.aload_n 0, 1) := by decide +kernel
theorem dX10_inLine_51 : decode cX10_inLine 51 = .ok (.iload_n 2, 1) := by decide +kernel
theorem dX10_inLine_52 : decode cX10_inLine 52 = .ok (.invokevirtual 113, 3) := by decide +kernel
theorem dX10_inLine_55 : decode cX10_inLine 55 = .ok (.ireturn, 1) := by decide +kernel
theorem dX10_wasted_0 : decode cX10_wasted 0 = .ok (.aload_n 0, 1) := by decide +kernel
theorem dX10_wasted_1 : decode cX10_wasted 1 = .ok (.iload_n 1, 1) := by decide +kernel
theorem dX10_wasted_2 : decode cX10_wasted 2 = .ok (.invokevirtual 262, 3) := by decide +kernel
theorem dX10_wasted_5 : decode cX10_wasted 5 = .ok (.ifCond .ne 10, 3) := by decide +kernel
theorem dX10_wasted_8 : decode cX10_wasted 8 = .ok (.aload_n 0, 1) := by decide +kernel
theorem dX10_wasted_9 : decode cX10_wasted 9 = .ok (.bipush 6, 2) := by decide +kernel
theorem dX10_wasted_11 : decode cX10_wasted 11 = .ok (.invokevirtual 117, 3) := by decide +kernel
theorem dX10_wasted_14 : decode cX10_wasted 14 = .ok (.ireturn, 1) := by decide +kernel
theorem dX10_wasted_15 : decode cX10_wasted 15 = .ok (.aload_n 0, 1) := by decide +kernel
theorem dX10_wasted_16 : decode cX10_wasted 16 = .ok (.aload_n 0, 1) := by decide +kernel
theorem dX10_wasted_17 : decode cX10_wasted 17 = .ok (.getfield 78, 3) := by decide +kernel
theorem dX10_wasted_20 : decode cX10_wasted 20 = .ok (.iload_n 1, 1) := by decide +kernel
theorem dX10_wasted_21 : decode cX10_wasted 21 = .ok (.invokevirtual 325, 3) := by decide +kernel
theorem dX10_wasted_24 : decode cX10_wasted 24 = .ok (.invokevirtual 113, 3) := by decide +kernel
theorem dX10_wasted_27 : decode cX10_wasted 27 = .ok (.ireturn, 1) := by decide +kernel
theorem dX10_saved_0 : decode cX10_saved 0 = .ok (.aload_n 0, 1) := by decide +kernel
theorem dX10_saved_1 : decode cX10_saved 1 = .ok (.getfield 61, 3) := by decide +kernel
theorem dX10_saved_4 : decode cX10_saved 4 = .ok (.ifCond .ne 10, 3) := by decide +kernel
theorem dX10_saved_7 : decode cX10_saved 7 = .ok (.aload_n 0, 1) := by decide +kernel
theorem dX10_saved_8 : decode cX10_saved 8 = .ok (.bipush 6, 2) := by decide +kernel
theorem dX10_saved_10 : decode cX10_saved 10 = .ok (.invokevirtual 117, 3) := by decide +kernel
theorem dX10_saved_13 : decode cX10_saved 13 = .ok (.ireturn, 1) := by decide +kernel
theorem dX10_saved_14 : decode cX10_saved 14 = .ok (.aload_n 0, 1) := by decide +kernel
theorem dX10_saved_15 : decode cX10_saved 15 = .ok (.invokevirtual 288, 3) := by decide +kernel
theorem dX10_saved_18 : decode cX10_saved 18 = .ok (.istore_n 1, 1) := by decide +kernel
theorem dX10_saved_19 : decode cX10_saved 19 = .ok (.aload_n 0, 1) := by decide +kernel
theorem dX10_saved_20 : decode cX10_saved 20 = .ok (.iload_n 1, 1) := by decide +kernel
theorem dX10_saved_21 : decode cX10_saved 21 = .ok (.iconst (-1), 1) := by decide +kernel
theorem dX10_saved_22 : decode cX10_saved 22 = .ok (.if_icmp .eq 7, 3) := by decide +kernel
theorem dX10_saved_25 : decode cX10_saved 25 = .ok (.iconst 1, 1) := by decide +kernel
theorem dX10_saved_26 : decode cX10_saved 26 = .ok (.goto 4, 3) := by decide +kernel
theorem dX10_saved_29 : decode cX10_saved 29 = .ok (.iconst 0, 1) := by decide +kernel
theorem dX10_saved_30 : decode cX10_saved 30 = .ok (.iload_n 1, 1) := by decide +kernel
theorem dX10_saved_31 : decode cX10_saved 31 = .ok (.aload_n 0, 1) := by decide +kernel
theorem dX10_saved_32 : decode cX10_saved 32 = .ok (.getfield 68, 3) := by decide +kernel
theorem dX10_saved_35 : decode cX10_saved 35 = .ok (.getfield 200, 3) := by decide +kernel
theorem dX10_saved_38 : decode cX10_saved 38 = .ok (.isub, 1) := by decide +kernel
theorem dX10_saved_39 : decode cX10_saved 39 = .ok (.bipush 7, 2) := by decide +kernel
theorem dX10_saved_41 : decode cX10_saved 41 = .ok (.invokevirtual 209, 3) := by decide +kernel
theorem dX10_saved_44 : decode cX10_saved 44 = .ok (.ireturn, 1) := by decide +kernel
theorem dX10_frequent_0 : decode cX10_frequent 0 = .ok (.aload_n 0, 1) := by decide +kernel
theorem dX10_frequent_1 : decode cX10_frequent 1 = .ok (.getfield 61, 3) := by decide +kernel
theorem dX10_frequent_4 : decode cX10_frequent 4 = .ok (.ifCond .eq 13, 3) := by decide +kernel
theorem dX10_frequent_7 : decode cX10_frequent 7 = .ok (.aload_n 0, 1) := by decide +kernel
theorem dX10_frequent_8 : decode cX10_frequent 8 = .ok (.getfield 57, 3) := by decide +kernel
theorem dX10_frequent_11 : decode cX10_frequent 11 = .ok (.invokevirtual 328, 3) := by decide +kernel
theorem dX10_frequent_14 : decode cX10_frequent 14 = .ok (.goto 4, 3) := by decide +kernel
theorem dX10_frequent_17 : decode cX10_frequent 17 = .ok (.iconst 0, 1) := by decide +kernel
theorem dX10_frequent_18 : decode cX10_frequent 18 = .ok (.istore_n 1, 1) := by decide +kernel
theorem dX10_frequent_19 : decode cX10_frequent 19 = .ok (.aload_n 0, 1) := by decide +kernel
theorem dX10_frequent_20 : decode cX10_frequent 20 = .ok (.iload_n 1, 1) := by decide +kernel
theorem dX10_frequent_21 : decode cX10_frequent 21 = .ok (.ifCond .eq 7, 3) := by decide +kernel
theorem dX10_frequent_24 : decode cX10_frequent 24 = .ok (.iconst 1, 1) := by decide +kernel
theorem dX10_frequent_25 : decode cX10_frequent 25 = .ok (.goto 4, 3) := by decide +kernel
theorem dX10_frequent_28 : decode cX10_frequent 28 = .ok (.iconst 0, 1) := by decide +kernel
theorem dX10_frequent_29 : decode cX10_frequent 29 = .ok (.iload_n 1, 1) := by decide +kernel
theorem dX10_frequent_30 : decode cX10_frequent 30 = .ok (.bipush 6, 2) := by decide +kernel
theorem dX10_frequent_32 : decode cX10_frequent 32 = .ok (.invokevirtual 209, 3) := by decide +kernel
theorem dX10_frequent_35 : decode cX10_frequent 35 = .ok (.ireturn, 1) := by decide +kernel
theorem dX10_pieceOf_0 : decode cX10_pieceOf 0 = .ok (.aload_n 0, 1) := by decide +kernel
theorem dX10_pieceOf_1 : decode cX10_pieceOf 1 = .ok (.iload_n 1, 1) := by decide +kernel
theorem dX10_pieceOf_2 : decode cX10_pieceOf 2 = .ok (.invokevirtual 256, 3) := by decide +kernel
theorem dX10_pieceOf_5 : decode cX10_pieceOf 5 = .ok (.ifCond .eq 15, 3) := by decide +kernel
theorem dX10_pieceOf_8 : decode cX10_pieceOf 8 = .ok (.aload_n 0, 1) := by decide +kernel
theorem dX10_pieceOf_9 : decode cX10_pieceOf 9 = .ok (.getfield 68, 3) := by decide +kernel
theorem dX10_pieceOf_12 : decode cX10_pieceOf 12 = .ok (.getfield 259, 3) := by decide +kernel
theorem dX10_pieceOf_15 : decode cX10_pieceOf 15 = .ok (.iload_n 1, 1) := by decide +kernel
theorem dX10_pieceOf_16 : decode cX10_pieceOf 16 = .ok (.iaload, 1) := by decide +kernel
theorem dX10_pieceOf_17 : decode cX10_pieceOf 17 = .ok (.ifCond .ne 10, 3) := by decide +kernel
theorem dX10_pieceOf_20 : decode cX10_pieceOf 20 = .ok (.aload_n 0, 1) := by decide +kernel
theorem dX10_pieceOf_21 : decode cX10_pieceOf 21 = .ok (.bipush 6, 2) := by decide +kernel
theorem dX10_pieceOf_23 : decode cX10_pieceOf 23 = .ok (.invokevirtual 117, 3) := by decide +kernel
theorem dX10_pieceOf_26 : decode cX10_pieceOf 26 = .ok (.ireturn, 1) := by decide +kernel
theorem dX10_pieceOf_27 : decode cX10_pieceOf 27 = .ok (.iconst 0, 1) := by decide +kernel
theorem dX10_pieceOf_28 : decode cX10_pieceOf 28 = .ok (.istore_n 2, 1) := by decide +kernel
theorem dX10_pieceOf_29 : decode cX10_pieceOf 29 = .ok (.iconst 0, 1) := by decide +kernel
theorem dX10_pieceOf_30 : decode cX10_pieceOf 30 = .ok (.istore_n 3, 1) := by decide +kernel
theorem dX10_pieceOf_31 : decode cX10_pieceOf 31 = .ok (.iload_n 3, 1) := by decide +kernel
theorem dX10_pieceOf_32 : decode cX10_pieceOf 32 = .ok (.iload_n 1, 1) := by decide +kernel
theorem dX10_pieceOf_33 : decode cX10_pieceOf 33 = .ok (.if_icmp .ge 24, 3) := by decide +kernel
theorem dX10_pieceOf_36 : decode cX10_pieceOf 36 = .ok (.aload_n 0, 1) := by decide +kernel
theorem dX10_pieceOf_37 : decode cX10_pieceOf 37 = .ok (.getfield 68, 3) := by decide +kernel
theorem dX10_pieceOf_40 : decode cX10_pieceOf 40 = .ok (.getfield 259, 3) := by decide +kernel
theorem dX10_pieceOf_43 : decode cX10_pieceOf 43 = .ok (.iload_n 3, 1) := by decide +kernel
theorem dX10_pieceOf_44 : decode cX10_pieceOf 44 = .ok (.iaload, 1) := by decide +kernel
theorem dX10_pieceOf_45 : decode cX10_pieceOf 45 = .ok (.ifCond .ne 6, 3) := by decide +kernel
theorem dX10_pieceOf_48 : decode cX10_pieceOf 48 = .ok (.iinc 2 1, 3) := by decide +kernel
theorem dX10_pieceOf_51 : decode cX10_pieceOf 51 = .ok (.iinc 3 1, 3) := by decide +kernel
theorem dX10_pieceOf_54 : decode cX10_pieceOf 54 = .ok (.goto (-23), 3) := by decide +kernel
theorem dX10_pieceOf_57 : decode cX10_pieceOf 57 = .ok (.aload_n 0, 1) := by decide +kernel
theorem dX10_pieceOf_58 : decode cX10_pieceOf 58 = .ok (.iload_n 2, 1) := by decide +kernel
theorem dX10_pieceOf_59 : decode cX10_pieceOf 59 = .ok (.invokevirtual 113, 3) := by decide +kernel
theorem dX10_pieceOf_62 : decode cX10_pieceOf 62 = .ok (.ireturn, 1) := by decide +kernel
theorem dX10_signs_0 : decode cX10_signs 0 = .ok (.iload_n 1, 1) := by decide +kernel
theorem dX10_signs_1 : decode cX10_signs 1 = .ok (.ifCond .lt 8, 3) := by decide +kernel
theorem dX10_signs_4 : decode cX10_signs 4 = .ok (.iload_n 1, 1) := by decide +kernel
theorem dX10_signs_5 : decode cX10_signs 5 = .ok (.iconst 1, 1) := by decide +kernel
theorem dX10_signs_6 : decode cX10_signs 6 = .ok (.if_icmp .le 9, 3) := by decide +kernel
theorem dX10_signs_9 : decode cX10_signs 9 = .ok (.aload_n 0, 1) := by decide +kernel
theorem dX10_signs_10 : decode cX10_signs 10 = .ok (.iconst 1, 1) := by decide +kernel
theorem dX10_signs_11 : decode cX10_signs 11 = .ok (.invokevirtual 117, 3) := by decide +kernel
theorem dX10_signs_14 : decode cX10_signs 14 = .ok (.ireturn, 1) := by decide +kernel
theorem dX10_signs_15 : decode cX10_signs 15 = .ok (.aload_n 0, 1) := by decide +kernel
theorem dX10_signs_16 : decode cX10_signs 16 = .ok (.getfield 61, 3) := by decide +kernel
theorem dX10_signs_19 : decode cX10_signs 19 = .ok (.ifCond .ne 10, 3) := by decide +kernel
theorem dX10_signs_22 : decode cX10_signs 22 = .ok (.aload_n 0, 1) := by decide +kernel
theorem dX10_signs_23 : decode cX10_signs 23 = .ok (.bipush 6, 2) := by decide +kernel
theorem dX10_signs_25 : decode cX10_signs 25 = .ok (.invokevirtual 117, 3) := by decide +kernel
theorem dX10_signs_28 : decode cX10_signs 28 = .ok (.ireturn, 1) := by decide +kernel
theorem dX10_signs_29 : decode cX10_signs 29 = .ok (.aload_n 0, 1) := by decide +kernel
theorem dX10_signs_30 : decode cX10_signs 30 = .ok (.iload_n 1, 1) := by decide +kernel
theorem dX10_signs_31 : decode cX10_signs 31 = .ok (.ifCond .ne 13, 3) := by decide +kernel
theorem dX10_signs_34 : decode cX10_signs 34 = .ok (.aload_n 0, 1) := by decide +kernel
theorem dX10_signs_35 : decode cX10_signs 35 = .ok (.getfield 57, 3) := by decide +kernel
theorem dX10_signs_38 : decode cX10_signs 38 = .ok (.invokevirtual 331, 3) := by decide +kernel
theorem dX10_signs_41 : decode cX10_signs 41 = .ok (.goto 10, 3) := by decide +kernel
theorem dX10_signs_44 : decode cX10_signs 44 = .ok (.aload_n 0, 1) := by decide +kernel
theorem dX10_signs_45 : decode cX10_signs 45 = .ok (.getfield 57, 3) := by decide +kernel
theorem dX10_signs_48 : decode cX10_signs 48 = .ok (.invokevirtual 334, 3) := by decide +kernel
theorem dX10_signs_51 : decode cX10_signs 51 = .ok (.invokevirtual 113, 3) := by decide +kernel
theorem dX10_signs_54 : decode cX10_signs 54 = .ok (.ireturn, 1) := by decide +kernel
theorem dX10_covers_0 : decode cX10_covers 0 = .ok (.aload_n 0, 1) := by decide +kernel
theorem dX10_covers_1 : decode cX10_covers 1 = .ok (.getfield 50, 3) := by decide +kernel
theorem dX10_covers_4 : decode cX10_covers 4 = .ok (.iload_n 1, 1) := by decide +kernel
theorem dX10_covers_5 : decode cX10_covers 5 = .ok (.invokevirtual 213, 3) := by decide +kernel
theorem dX10_covers_8 : decode cX10_covers 8 = .ok (.ifCond .ne 9, 3) := by decide +kernel
theorem dX10_covers_11 : decode cX10_covers 11 = .ok (.aload_n 0, 1) := by decide +kernel
theorem dX10_covers_12 : decode cX10_covers 12 = .ok (.iconst 1, 1) := by decide +kernel
theorem dX10_covers_13 : decode cX10_covers 13 = .ok (.invokevirtual 117, 3) := by decide +kernel
theorem dX10_covers_16 : decode cX10_covers 16 = .ok (.ireturn, 1) := by decide +kernel
theorem dX10_covers_17 : decode cX10_covers 17 = .ok (.aload_n 0, 1) := by decide +kernel
theorem dX10_covers_18 : decode cX10_covers 18 = .ok (.getfield 61, 3) := by decide +kernel
theorem dX10_covers_21 : decode cX10_covers 21 = .ok (.ifCond .ne 10, 3) := by decide +kernel
theorem dX10_covers_24 : decode cX10_covers 24 = .ok (.aload_n 0, 1) := by decide +kernel
theorem dX10_covers_25 : decode cX10_covers 25 = .ok (.bipush 6, 2) := by decide +kernel
theorem dX10_covers_27 : decode cX10_covers 27 = .ok (.invokevirtual 117, 3) := by decide +kernel
theorem dX10_covers_30 : decode cX10_covers 30 = .ok (.ireturn, 1) := by decide +kernel
theorem dX10_covers_31 : decode cX10_covers 31 = .ok (.aload_n 0, 1) := by decide +kernel
theorem dX10_covers_32 : decode cX10_covers 32 = .ok (.aload_n 0, 1) := by decide +kernel
theorem dX10_covers_33 : decode cX10_covers 33 = .ok (.getfield 50, 3) := by decide +kernel
theorem dX10_covers_36 : decode cX10_covers 36 = .ok (.iload_n 1, 1) := by decide +kernel
theorem dX10_covers_37 : decode cX10_covers 37 = .ok (.invokevirtual 283, 3) := by decide +kernel
theorem dX10_covers_40 : decode cX10_covers 40 = .ok (.ifCond .eq 18, 3) := by decide +kernel
theorem dX10_covers_43 : decode cX10_covers 43 = .ok (.aload_n 0, 1) := by decide +kernel
theorem dX10_covers_44 : decode cX10_covers 44 = .ok (.getfield 57, 3) := by decide +kernel
theorem dX10_covers_47 : decode cX10_covers 47 = .ok (.iload_n 1, 1) := by decide +kernel
theorem dX10_covers_48 : decode cX10_covers 48 = .ok (.aload_n 0, 1) := by decide +kernel
theorem dX10_covers_49 : decode cX10_covers 49 = .ok (.getfield 50, 3) := by decide +kernel
theorem dX10_covers_52 : decode cX10_covers 52 = .ok (.invokevirtual 337, 3) := by decide +kernel
theorem dX10_covers_55 : decode cX10_covers 55 = .ok (.goto 4, 3) := by decide +kernel
theorem dX10_covers_58 : decode cX10_covers 58 = .ok (.iconst 0, 1) := by decide +kernel
theorem dX10_covers_59 : decode cX10_covers 59 = .ok (.invokevirtual 113, 3) := by decide +kernel
theorem dX10_covers_62 : decode cX10_covers 62 = .ok (.ireturn, 1) := by decide +kernel
theorem dX10_often_0 : decode cX10_often 0 = .ok (.iload_n 1, 1) := by decide +kernel
theorem dX10_often_1 : decode cX10_often 1 = .ok (.ifCond .lt 9, 3) := by decide +kernel
theorem dX10_often_4 : decode cX10_often 4 = .ok (.iload_n 1, 1) := by decide +kernel
theorem dX10_often_5 : decode cX10_often 5 = .ok (.bipush 63, 2) := by decide +kernel
theorem dX10_often_7 : decode cX10_often 7 = .ok (.if_icmp .le 9, 3) := by decide +kernel
theorem dX10_often_10 : decode cX10_often 10 = .ok (.aload_n 0, 1) := by decide +kernel
theorem dX10_often_11 : decode cX10_often 11 = .ok (.iconst 1, 1) := by decide +kernel
theorem dX10_often_12 : decode cX10_often 12 = .ok (.invokevirtual 117, 3) := by decide +kernel
theorem dX10_often_15 : decode cX10_often 15 = .ok (.ireturn, 1) := by decide +kernel
theorem dX10_often_16 : decode cX10_often 16 = .ok (.aload_n 0, 1) := by decide +kernel
theorem dX10_often_17 : decode cX10_often 17 = .ok (.getfield 61, 3) := by decide +kernel
theorem dX10_often_20 : decode cX10_often 20 = .ok (.ifCond .ne 10, 3) := by decide +kernel
theorem dX10_often_23 : decode cX10_often 23 = .ok (.aload_n 0, 1) := by decide +kernel
theorem dX10_often_24 : decode cX10_often 24 = .ok (.bipush 6, 2) := by decide +kernel
theorem dX10_often_26 : decode cX10_often 26 = .ok (.invokevirtual 117, 3) := by decide +kernel
theorem dX10_often_29 : decode cX10_often 29 = .ok (.ireturn, 1) := by decide +kernel
theorem dX10_often_30 : decode cX10_often 30 = .ok (.aload_n 0, 1) := by decide +kernel
theorem dX10_often_31 : decode cX10_often 31 = .ok (.aload_n 0, 1) := by decide +kernel
theorem dX10_often_32 : decode cX10_often 32 = .ok (.getfield 68, 3) := by decide +kernel
theorem dX10_often_35 : decode cX10_often 35 = .ok (.iload_n 1, 1) := by decide +kernel
theorem dX10_often_36 : decode cX10_often 36 = .ok (.invokevirtual 341, 3) := by decide +kernel
theorem dX10_often_39 : decode cX10_often 39 = .ok (.invokevirtual 113, 3) := by decide +kernel
theorem dX10_often_42 : decode cX10_often 42 = .ok (.ireturn, 1) := by decide +kernel
theorem dX10_commonest_0 : decode cX10_commonest 0 = .ok (.iconst 0, 1) := by decide +kernel
theorem dX10_commonest_1 : decode cX10_commonest 1 = .ok (.istore_n 1, 1) := by decide +kernel
theorem dX10_commonest_2 : decode cX10_commonest 2 = .ok (.iconst 0, 1) := by decide +kernel
theorem dX10_commonest_3 : decode cX10_commonest 3 = .ok (.istore_n 2, 1) := by decide +kernel
theorem dX10_commonest_4 : decode cX10_commonest 4 = .ok (.iconst 1, 1) := by decide +kernel
theorem dX10_commonest_5 : decode cX10_commonest 5 = .ok (.istore_n 3, 1) := by decide +kernel
theorem dX10_commonest_6 : decode cX10_commonest 6 = .ok (.aload_n 0, 1) := by decide +kernel
theorem dX10_commonest_7 : decode cX10_commonest 7 = .ok (.getfield 61, 3) := by decide +kernel
theorem dX10_commonest_10 : decode cX10_commonest 10 = .ok (.ifCond .eq 36, 3) := by decide +kernel
theorem dX10_commonest_13 : decode cX10_commonest 13 = .ok (.iload_n 3, 1) := by decide +kernel
theorem dX10_commonest_14 : decode cX10_commonest 14 = .ok (.bipush 63, 2) := by decide +kernel
theorem dX10_commonest_16 : decode cX10_commonest 16 = .ok (.if_icmp .gt 30, 3) := by decide +kernel
theorem dX10_commonest_19 : decode cX10_commonest 19 = .ok (.aload_n 0, 1) := by decide +kernel
theorem dX10_commonest_20 : decode cX10_commonest 20 = .ok (.getfield 68, 3) := by decide +kernel
theorem dX10_commonest_23 : decode cX10_commonest 23 = .ok (.iload_n 3, 1) := by decide +kernel
theorem dX10_commonest_24 : decode cX10_commonest 24 = .ok (.invokevirtual 341, 3) := by decide +kernel
theorem dX10_commonest_27 : decode cX10_commonest 27 = .ok (.istore 4, 2) := by decide +kernel
theorem dX10_commonest_29 : decode cX10_commonest 29 = .ok (.iload 4, 2) := by decide +kernel
theorem dX10_commonest_31 : decode cX10_commonest 31 = .ok (.iload_n 2, 1) := by decide +kernel
theorem dX10_commonest_32 : decode cX10_commonest 32 = .ok (.if_icmp .le 8, 3) := by decide +kernel
theorem dX10_commonest_35 : decode cX10_commonest 35 = .ok (.iload_n 3, 1) := by decide +kernel
theorem dX10_commonest_36 : decode cX10_commonest 36 = .ok (.istore_n 1, 1) := by decide +kernel
theorem dX10_commonest_37 : decode cX10_commonest 37 = .ok (.iload 4, 2) := by decide +kernel
theorem dX10_commonest_39 : decode cX10_commonest 39 = .ok (.istore_n 2, 1) := by decide +kernel
theorem dX10_commonest_40 : decode cX10_commonest 40 = .ok (.iinc 3 1, 3) := by decide +kernel
theorem dX10_commonest_43 : decode cX10_commonest 43 = .ok (.goto (-37), 3) := by decide +kernel
theorem dX10_commonest_46 : decode cX10_commonest 46 = .ok (.aload_n 0, 1) := by decide +kernel
theorem dX10_commonest_47 : decode cX10_commonest 47 = .ok (.iload_n 1, 1) := by decide +kernel
theorem dX10_commonest_48 : decode cX10_commonest 48 = .ok (.ifCond .eq 7, 3) := by decide +kernel
theorem dX10_commonest_51 : decode cX10_commonest 51 = .ok (.iconst 1, 1) := by decide +kernel
theorem dX10_commonest_52 : decode cX10_commonest 52 = .ok (.goto 4, 3) := by decide +kernel
theorem dX10_commonest_55 : decode cX10_commonest 55 = .ok (.iconst 0, 1) := by decide +kernel
theorem dX10_commonest_56 : decode cX10_commonest 56 = .ok (.iload_n 1, 1) := by decide +kernel
theorem dX10_commonest_57 : decode cX10_commonest 57 = .ok (.bipush 6, 2) := by decide +kernel
theorem dX10_commonest_59 : decode cX10_commonest 59 = .ok (.invokevirtual 209, 3) := by decide +kernel
theorem dX10_commonest_62 : decode cX10_commonest 62 = .ok (.ireturn, 1) := by decide +kernel
theorem dX10_ragged_0 : decode cX10_ragged 0 = .ok (.aload_n 0, 1) := by decide +kernel
theorem dX10_ragged_1 : decode cX10_ragged 1 = .ok (.aload_n 0, 1) := by decide +kernel
theorem dX10_ragged_2 : decode cX10_ragged 2 = .ok (.getfield 61, 3) := by decide +kernel
theorem dX10_ragged_5 : decode cX10_ragged 5 = .ok (.aload_n 0, 1) := by decide +kernel
theorem dX10_ragged_6 : decode cX10_ragged 6 = .ok (.getfield 78, 3) := by decide +kernel
theorem dX10_ragged_9 : decode cX10_ragged 9 = .ok (.invokevirtual 344, 3) := by decide +kernel
theorem dX10_ragged_12 : decode cX10_ragged 12 = .ok (.bipush 6, 2) := by decide +kernel
theorem dX10_ragged_14 : decode cX10_ragged 14 = .ok (.invokevirtual 209, 3) := by decide +kernel
theorem dX10_ragged_17 : decode cX10_ragged 17 = .ok (.ireturn, 1) := by decide +kernel
theorem dX10_leastRagged_0 : decode cX10_leastRagged 0 = .ok (.aload_n 0, 1) := by decide +kernel
theorem dX10_leastRagged_1 : decode cX10_leastRagged 1 = .ok (.getfield 61, 3) := by decide +kernel
theorem dX10_leastRagged_4 : decode cX10_leastRagged 4 = .ok (.ifCond .ne 10, 3) := by decide +kernel
theorem dX10_leastRagged_7 : decode cX10_leastRagged 7 = .ok (.aload_n 0, 1) := by decide +kernel
theorem dX10_leastRagged_8 : decode cX10_leastRagged 8 = .ok (.bipush 6, 2) := by decide +kernel
theorem dX10_leastRagged_10 : decode cX10_leastRagged 10 = .ok (.invokevirtual 117, 3) := by decide +kernel
theorem dX10_leastRagged_13 : decode cX10_leastRagged 13 = .ok (.ireturn, 1) := by decide +kernel
theorem dX10_leastRagged_14 : decode cX10_leastRagged 14 = .ok (.aload_n 0, 1) := by decide +kernel
theorem dX10_leastRagged_15 : decode cX10_leastRagged 15 = .ok (.getfield 78, 3) := by decide +kernel
theorem dX10_leastRagged_18 : decode cX10_leastRagged 18 = .ok (.invokevirtual 347, 3) := by decide +kernel
theorem dX10_leastRagged_21 : decode cX10_leastRagged 21 = .ok (.istore_n 1, 1) := by decide +kernel
theorem dX10_leastRagged_22 : decode cX10_leastRagged 22 = .ok (.aload_n 0, 1) := by decide +kernel
theorem dX10_leastRagged_23 : decode cX10_leastRagged 23 = .ok (.iload_n 1, 1) := by decide +kernel
theorem dX10_leastRagged_24 : decode cX10_leastRagged 24 = .ok (.iconst (-1), 1) := by decide +kernel
theorem dX10_leastRagged_25 : decode cX10_leastRagged 25 = .ok (.if_icmp .eq 7, 3) := by decide +kernel
theorem dX10_leastRagged_28 : decode cX10_leastRagged 28 = .ok (.iconst 1, 1) := by decide +kernel
theorem dX10_leastRagged_29 : decode cX10_leastRagged 29 = .ok (.goto 4, 3) := by decide +kernel
theorem dX10_leastRagged_32 : decode cX10_leastRagged 32 = .ok (.iconst 0, 1) := by decide +kernel
theorem dX10_leastRagged_33 : decode cX10_leastRagged 33 = .ok (.iload_n 1, 1) := by decide +kernel
theorem dX10_leastRagged_34 : decode cX10_leastRagged 34 = .ok (.bipush 7, 2) := by decide +kernel
theorem dX10_leastRagged_36 : decode cX10_leastRagged 36 = .ok (.invokevirtual 209, 3) := by decide +kernel
theorem dX10_leastRagged_39 : decode cX10_leastRagged 39 = .ok (.ireturn, 1) := by decide +kernel
theorem dX10_whyNoRow_0 : decode cX10_whyNoRow 0 = .ok (.aload_n 0, 1) := by decide +kernel
theorem dX10_whyNoRow_1 : decode cX10_whyNoRow 1 = .ok (.getfield 36, 3) := by decide +kernel
theorem dX10_whyNoRow_4 : decode cX10_whyNoRow 4 = .ok (.iload_n 1, 1) := by decide +kernel
theorem dX10_whyNoRow_5 : decode cX10_whyNoRow 5 = .ok (.invokevirtual 120, 3) := by decide +kernel
theorem dX10_whyNoRow_8 : decode cX10_whyNoRow 8 = .ok (.ifCond .eq 14, 3) := by decide +kernel
theorem dX10_whyNoRow_11 : decode cX10_whyNoRow 11 = .ok (.iload_n 2, 1) := by decide +kernel
theorem dX10_whyNoRow_12 : decode cX10_whyNoRow 12 = .ok (.iconst 1, 1) := by decide +kernel
theorem dX10_whyNoRow_13 : decode cX10_whyNoRow 13 = .ok (.if_icmp .lt 9, 3) := by decide +kernel
theorem dX10_whyNoRow_16 : decode cX10_whyNoRow 16 = .ok (.iload_n 2, 1) := by decide +kernel
theorem dX10_whyNoRow_17 : decode cX10_whyNoRow 17 = .ok (.bipush 20, 2) := by decide +kernel
theorem dX10_whyNoRow_19 : decode cX10_whyNoRow 19 = .ok (.if_icmp .le 5, 3) := by decide +kernel
theorem dX10_whyNoRow_22 : decode cX10_whyNoRow 22 = .ok (.iconst 1, 1) := by decide +kernel
theorem dX10_whyNoRow_23 : decode cX10_whyNoRow 23 = .ok (.ireturn, 1) := by decide +kernel
theorem dX10_whyNoRow_24 : decode cX10_whyNoRow 24 = .ok (.aload_n 0, 1) := by decide +kernel
theorem dX10_whyNoRow_25 : decode cX10_whyNoRow 25 = .ok (.getfield 36, 3) := by decide +kernel
theorem dX10_whyNoRow_28 : decode cX10_whyNoRow 28 = .ok (.iload_n 1, 1) := by decide +kernel
theorem dX10_whyNoRow_29 : decode cX10_whyNoRow 29 = .ok (.invokevirtual 150, 3) := by decide +kernel
theorem dX10_whyNoRow_32 : decode cX10_whyNoRow 32 = .ok (.ifCond .eq 5, 3) := by decide +kernel
theorem dX10_whyNoRow_35 : decode cX10_whyNoRow 35 = .ok (.iconst 2, 1) := by decide +kernel
theorem dX10_whyNoRow_36 : decode cX10_whyNoRow 36 = .ok (.ireturn, 1) := by decide +kernel
theorem dX10_whyNoRow_37 : decode cX10_whyNoRow 37 = .ok (.aload_n 0, 1) := by decide +kernel
theorem dX10_whyNoRow_38 : decode cX10_whyNoRow 38 = .ok (.getfield 36, 3) := by decide +kernel
theorem dX10_whyNoRow_41 : decode cX10_whyNoRow 41 = .ok (.iload_n 1, 1) := by decide +kernel
theorem dX10_whyNoRow_42 : decode cX10_whyNoRow 42 = .ok (.iconst 0, 1) := by decide +kernel
theorem dX10_whyNoRow_43 : decode cX10_whyNoRow 43 = .ok (.iload_n 2, 1) := by decide +kernel
theorem dX10_whyNoRow_44 : decode cX10_whyNoRow 44 = .ok (.invokevirtual 156, 3) := by decide +kernel
theorem dX10_whyNoRow_47 : decode cX10_whyNoRow 47 = .ok (.ifCond .ne 5, 3) := by decide +kernel
theorem dX10_whyNoRow_50 : decode cX10_whyNoRow 50 = .ok (.iconst 3, 1) := by decide +kernel
theorem dX10_whyNoRow_51 : decode cX10_whyNoRow 51 = .ok (.ireturn, 1) := by decide +kernel
theorem dX10_whyNoRow_52 : decode cX10_whyNoRow 52 = .ok (.aload_n 0, 1) := by decide +kernel
theorem dX10_whyNoRow_53 : decode cX10_whyNoRow 53 = .ok (.getfield 36, 3) := by decide +kernel
theorem dX10_whyNoRow_56 : decode cX10_whyNoRow 56 = .ok (.iload_n 1, 1) := by decide +kernel
theorem dX10_whyNoRow_57 : decode cX10_whyNoRow 57 = .ok (.iload_n 2, 1) := by decide +kernel
theorem dX10_whyNoRow_58 : decode cX10_whyNoRow 58 = .ok (.iconst 1, 1) := by decide +kernel
theorem dX10_whyNoRow_59 : decode cX10_whyNoRow 59 = .ok (.invokevirtual 350, 3) := by decide +kernel
theorem dX10_whyNoRow_62 : decode cX10_whyNoRow 62 = .ok (.ifCond .eq 7, 3) := by decide +kernel
theorem dX10_whyNoRow_65 : decode cX10_whyNoRow 65 = .ok (.iconst 0, 1) := by decide +kernel
theorem dX10_whyNoRow_66 : decode cX10_whyNoRow 66 = .ok (.goto 4, 3) := by decide +kernel
theorem dX10_whyNoRow_69 : decode cX10_whyNoRow 69 = .ok (.iconst 5, 1) := by decide +kernel
theorem dX10_whyNoRow_70 : decode cX10_whyNoRow 70 = .ok (.ireturn, 1) := by decide +kernel
theorem dX10_whyNoFailed_0 : decode cX10_whyNoFailed 0 = .ok (.aload_n 0, 1) := by decide +kernel
theorem dX10_whyNoFailed_1 : decode cX10_whyNoFailed 1 = .ok (.getfield 36, 3) := by decide +kernel
theorem dX10_whyNoFailed_4 : decode cX10_whyNoFailed 4 = .ok (.iload_n 1, 1) := by decide +kernel
theorem dX10_whyNoFailed_5 : decode cX10_whyNoFailed 5 = .ok (.invokevirtual 120, 3) := by decide +kernel
theorem dX10_whyNoFailed_8 : decode cX10_whyNoFailed 8 = .ok (.ifCond .eq 25, 3) := by decide +kernel
theorem dX10_whyNoFailed_11 : decode cX10_whyNoFailed 11 = .ok (.aload_n 0, 1) := by decide +kernel
theorem dX10_whyNoFailed_12 : decode cX10_whyNoFailed 12 = .ok (.getfield 36, 3) := by decide +kernel
theorem dX10_whyNoFailed_15 : decode cX10_whyNoFailed 15 = .ok (.iload_n 2, 1) := by decide +kernel
theorem dX10_whyNoFailed_16 : decode cX10_whyNoFailed 16 = .ok (.invokevirtual 120, 3) := by decide +kernel
theorem dX10_whyNoFailed_19 : decode cX10_whyNoFailed 19 = .ok (.ifCond .eq 14, 3) := by decide +kernel
theorem dX10_whyNoFailed_22 : decode cX10_whyNoFailed 22 = .ok (.iload_n 3, 1) := by decide +kernel
theorem dX10_whyNoFailed_23 : decode cX10_whyNoFailed 23 = .ok (.iconst 1, 1) := by decide +kernel
theorem dX10_whyNoFailed_24 : decode cX10_whyNoFailed 24 = .ok (.if_icmp .lt 9, 3) := by decide +kernel
theorem dX10_whyNoFailed_27 : decode cX10_whyNoFailed 27 = .ok (.iload_n 3, 1) := by decide +kernel
theorem dX10_whyNoFailed_28 : decode cX10_whyNoFailed 28 = .ok (.bipush 20, 2) := by decide +kernel
theorem dX10_whyNoFailed_30 : decode cX10_whyNoFailed 30 = .ok (.if_icmp .le 5, 3) := by decide +kernel
theorem dX10_whyNoFailed_33 : decode cX10_whyNoFailed 33 = .ok (.iconst 1, 1) := by decide +kernel
theorem dX10_whyNoFailed_34 : decode cX10_whyNoFailed 34 = .ok (.ireturn, 1) := by decide +kernel
theorem dX10_whyNoFailed_35 : decode cX10_whyNoFailed 35 = .ok (.aload_n 0, 1) := by decide +kernel
theorem dX10_whyNoFailed_36 : decode cX10_whyNoFailed 36 = .ok (.getfield 36, 3) := by decide +kernel
theorem dX10_whyNoFailed_39 : decode cX10_whyNoFailed 39 = .ok (.iload_n 1, 1) := by decide +kernel
theorem dX10_whyNoFailed_40 : decode cX10_whyNoFailed 40 = .ok (.invokevirtual 150, 3) := by decide +kernel
theorem dX10_whyNoFailed_43 : decode cX10_whyNoFailed 43 = .ok (.ifCond .ne 14, 3) := by decide +kernel
theorem dX10_whyNoFailed_46 : decode cX10_whyNoFailed 46 = .ok (.aload_n 0, 1) := by decide +kernel
theorem dX10_whyNoFailed_47 : decode cX10_whyNoFailed 47 = .ok (.getfield 36, 3) := by decide +kernel
theorem dX10_whyNoFailed_50 : decode cX10_whyNoFailed 50 = .ok (.iload_n 2, 1) := by decide +kernel
theorem dX10_whyNoFailed_51 : decode cX10_whyNoFailed 51 = .ok (.invokevirtual 150, 3) := by decide +kernel
theorem dX10_whyNoFailed_54 : decode cX10_whyNoFailed 54 = .ok (.ifCond .eq 5, 3) := by decide +kernel
theorem dX10_whyNoFailed_57 : decode cX10_whyNoFailed 57 = .ok (.iconst 2, 1) := by decide +kernel
theorem dX10_whyNoFailed_58 : decode cX10_whyNoFailed 58 = .ok (.ireturn, 1) := by decide +kernel
theorem dX10_whyNoFailed_59 : decode cX10_whyNoFailed 59 = .ok (.aload_n 0, 1) := by decide +kernel
theorem dX10_whyNoFailed_60 : decode cX10_whyNoFailed 60 = .ok (.getfield 36, 3) := by decide +kernel
theorem dX10_whyNoFailed_63 : decode cX10_whyNoFailed 63 = .ok (.iload_n 1, 1) := by decide +kernel
theorem dX10_whyNoFailed_64 : decode cX10_whyNoFailed 64 = .ok (.iconst 0, 1) := by decide +kernel
theorem dX10_whyNoFailed_65 : decode cX10_whyNoFailed 65 = .ok (.iload_n 3, 1) := by decide +kernel
theorem dX10_whyNoFailed_66 : decode cX10_whyNoFailed 66 = .ok (.invokevirtual 156, 3) := by decide +kernel
theorem dX10_whyNoFailed_69 : decode cX10_whyNoFailed 69 = .ok (.ifCond .eq 16, 3) := by decide +kernel
theorem dX10_whyNoFailed_72 : decode cX10_whyNoFailed 72 = .ok (.aload_n 0, 1) := by decide +kernel
theorem dX10_whyNoFailed_73 : decode cX10_whyNoFailed 73 = .ok (.getfield 36, 3) := by decide +kernel
theorem dX10_whyNoFailed_76 : decode cX10_whyNoFailed 76 = .ok (.iload_n 2, 1) := by decide +kernel
theorem dX10_whyNoFailed_77 : decode cX10_whyNoFailed 77 = .ok (.iconst 0, 1) := by decide +kernel
theorem dX10_whyNoFailed_78 : decode cX10_whyNoFailed 78 = .ok (.iload_n 3, 1) := by decide +kernel
theorem dX10_whyNoFailed_79 : decode cX10_whyNoFailed 79 = .ok (.invokevirtual 156, 3) := by decide +kernel
theorem dX10_whyNoFailed_82 : decode cX10_whyNoFailed 82 = .ok (.ifCond .ne 5, 3) := by decide +kernel
theorem dX10_whyNoFailed_85 : decode cX10_whyNoFailed 85 = .ok (.iconst 3, 1) := by decide +kernel
theorem dX10_whyNoFailed_86 : decode cX10_whyNoFailed 86 = .ok (.ireturn, 1) := by decide +kernel
theorem dX10_whyNoFailed_87 : decode cX10_whyNoFailed 87 = .ok (.aload_n 0, 1) := by decide +kernel
theorem dX10_whyNoFailed_88 : decode cX10_whyNoFailed 88 = .ok (.getfield 36, 3) := by decide +kernel
theorem dX10_whyNoFailed_91 : decode cX10_whyNoFailed 91 = .ok (.iload_n 1, 1) := by decide +kernel
theorem dX10_whyNoFailed_92 : decode cX10_whyNoFailed 92 = .ok (.iload_n 3, 1) := by decide +kernel
theorem dX10_whyNoFailed_93 : decode cX10_whyNoFailed 93 = .ok (.iconst 1, 1) := by decide +kernel
theorem dX10_whyNoFailed_94 : decode cX10_whyNoFailed 94 = .ok (.invokevirtual 350, 3) := by decide +kernel
theorem dX10_whyNoFailed_97 : decode cX10_whyNoFailed 97 = .ok (.ifCond .eq 20, 3) := by decide +kernel
theorem dX10_whyNoFailed_100 : decode cX10_whyNoFailed 100 = .ok (.aload_n 0, 1) := by decide +kernel
theorem dX10_whyNoFailed_101 : decode cX10_whyNoFailed 101 = .ok (.getfield 36, 3) := by decide +kernel
theorem dX10_whyNoFailed_104 : decode cX10_whyNoFailed 104 = .ok (.iload_n 2, 1) := by decide +kernel
theorem dX10_whyNoFailed_105 : decode cX10_whyNoFailed 105 = .ok (.iload_n 3, 1) := by decide +kernel
theorem dX10_whyNoFailed_106 : decode cX10_whyNoFailed 106 = .ok (.iconst 0, 1) := by decide +kernel
theorem dX10_whyNoFailed_107 : decode cX10_whyNoFailed 107 = .ok (.invokevirtual 350, 3) := by decide +kernel
theorem dX10_whyNoFailed_110 : decode cX10_whyNoFailed 110 = .ok (.ifCond .eq 7, 3) := by decide +kernel
theorem dX10_whyNoFailed_113 : decode cX10_whyNoFailed 113 = .ok (.iconst 1, 1) := by decide +kernel
theorem dX10_whyNoFailed_114 : decode cX10_whyNoFailed 114 = .ok (.goto 4, 3) := by decide +kernel
theorem dX10_whyNoFailed_117 : decode cX10_whyNoFailed 117 = .ok (.iconst 0, 1) := by decide +kernel
theorem dX10_whyNoFailed_118 : decode cX10_whyNoFailed 118 = .ok (.istore 4, 2) := by decide +kernel
theorem dX10_whyNoFailed_120 : decode cX10_whyNoFailed 120 = .ok (.iload 4, 2) := by decide +kernel
theorem dX10_whyNoFailed_122 : decode cX10_whyNoFailed 122 = .ok (.ifCond .eq 7, 3) := by decide +kernel
theorem dX10_whyNoFailed_125 : decode cX10_whyNoFailed 125 = .ok (.iconst 0, 1) := by decide +kernel
theorem dX10_whyNoFailed_126 : decode cX10_whyNoFailed 126 = .ok (.goto 4, 3) := by decide +kernel
theorem dX10_whyNoFailed_129 : decode cX10_whyNoFailed 129 = .ok (.iconst 5, 1) := by decide +kernel
theorem dX10_whyNoFailed_130 : decode cX10_whyNoFailed 130 = .ok (.ireturn, 1) := by decide +kernel
theorem dX10_takeRow_0 : decode cX10_takeRow 0 = .ok (.iconst 0, 1) := by decide +kernel
theorem dX10_takeRow_1 : decode cX10_takeRow 1 = .ok (.istore 4, 2) := by decide +kernel
theorem dX10_takeRow_3 : decode cX10_takeRow 3 = .ok (.iload 4, 2) := by decide +kernel
theorem dX10_takeRow_5 : decode cX10_takeRow 5 = .ok (.iload_n 3, 1) := by decide +kernel
theorem dX10_takeRow_6 : decode cX10_takeRow 6 = .ok (.if_icmp .ge 53, 3) := by decide +kernel
theorem dX10_takeRow_9 : decode cX10_takeRow 9 = .ok (.iload_n 2, 1) := by decide +kernel
theorem dX10_takeRow_10 : decode cX10_takeRow 10 = .ok (.iconst (-1), 1) := by decide +kernel
theorem dX10_takeRow_11 : decode cX10_takeRow 11 = .ok (.if_icmp .ne 7, 3) := by decide +kernel
theorem dX10_takeRow_14 : decode cX10_takeRow 14 = .ok (.iconst 0, 1) := by decide +kernel
theorem dX10_takeRow_15 : decode cX10_takeRow 15 = .ok (.goto 14, 3) := by decide +kernel
theorem dX10_takeRow_18 : decode cX10_takeRow 18 = .ok (.aload_n 0, 1) := by decide +kernel
theorem dX10_takeRow_19 : decode cX10_takeRow 19 = .ok (.getfield 36, 3) := by decide +kernel
theorem dX10_takeRow_22 : decode cX10_takeRow 22 = .ok (.iload_n 2, 1) := by decide +kernel
theorem dX10_takeRow_23 : decode cX10_takeRow 23 = .ok (.iload 4, 2) := by decide +kernel
theorem dX10_takeRow_25 : decode cX10_takeRow 25 = .ok (.invokevirtual 146, 3) := by decide +kernel
theorem dX10_takeRow_28 : decode cX10_takeRow 28 = .ok (.l2i, 1) := by decide +kernel
theorem dX10_takeRow_29 : decode cX10_takeRow 29 = .ok (.istore 5, 2) := by decide +kernel
theorem dX10_takeRow_31 : decode cX10_takeRow 31 = .ok (.aload_n 0, 1) := by decide +kernel
theorem dX10_takeRow_32 : decode cX10_takeRow 32 = .ok (.getfield 85, 3) := by decide +kernel
theorem dX10_takeRow_35 : decode cX10_takeRow 35 = .ok (.iload 4, 2) := by decide +kernel
theorem dX10_takeRow_37 : decode cX10_takeRow 37 = .ok (.aload_n 0, 1) := by decide +kernel
theorem dX10_takeRow_38 : decode cX10_takeRow 38 = .ok (.getfield 36, 3) := by decide +kernel
theorem dX10_takeRow_41 : decode cX10_takeRow 41 = .ok (.iload_n 1, 1) := by decide +kernel
theorem dX10_takeRow_42 : decode cX10_takeRow 42 = .ok (.iload 4, 2) := by decide +kernel
theorem dX10_takeRow_44 : decode cX10_takeRow 44 = .ok (.invokevirtual 146, 3) := by decide +kernel
theorem dX10_takeRow_47 : decode cX10_takeRow 47 = .ok (.l2i, 1) := by decide +kernel
theorem dX10_takeRow_48 : decode cX10_takeRow 48 = .ok (.iload 5, 2) := by decide +kernel
theorem dX10_takeRow_50 : decode cX10_takeRow 50 = .ok (.invokevirtual 353, 3) := by decide +kernel
theorem dX10_takeRow_53 : decode cX10_takeRow 53 = .ok (.iinc 4 1, 3) := by decide +kernel
theorem dX10_takeRow_56 : decode cX10_takeRow 56 = .ok (.goto (-53), 3) := by decide +kernel
theorem dX10_takeRow_59 : decode cX10_takeRow 59 = .ok (.aload_n 0, 1) := by decide +kernel
theorem dX10_takeRow_60 : decode cX10_takeRow 60 = .ok (.getfield 85, 3) := by decide +kernel
theorem dX10_takeRow_63 : decode cX10_takeRow 63 = .ok (.iload_n 3, 1) := by decide +kernel
theorem dX10_takeRow_64 : decode cX10_takeRow 64 = .ok (.aload_n 0, 1) := by decide +kernel
theorem dX10_takeRow_65 : decode cX10_takeRow 65 = .ok (.getfield 50, 3) := by decide +kernel
theorem dX10_takeRow_68 : decode cX10_takeRow 68 = .ok (.invokevirtual 355, 3) := by decide +kernel
theorem dX10_takeRow_71 : decode cX10_takeRow 71 = .ok (.return_, 1) := by decide +kernel
theorem dX10_ways_0 : decode cX10_ways 0 = .ok (.aload_n 0, 1) := by decide +kernel
theorem dX10_ways_1 : decode cX10_ways 1 = .ok (.iload_n 1, 1) := by decide +kernel
theorem dX10_ways_2 : decode cX10_ways 2 = .ok (.iload_n 2, 1) := by decide +kernel
theorem dX10_ways_3 : decode cX10_ways 3 = .ok (.invokevirtual 359, 3) := by decide +kernel
theorem dX10_ways_6 : decode cX10_ways 6 = .ok (.istore_n 3, 1) := by decide +kernel
theorem dX10_ways_7 : decode cX10_ways 7 = .ok (.iload_n 3, 1) := by decide +kernel
theorem dX10_ways_8 : decode cX10_ways 8 = .ok (.ifCond .eq 9, 3) := by decide +kernel
theorem dX10_ways_11 : decode cX10_ways 11 = .ok (.aload_n 0, 1) := by decide +kernel
theorem dX10_ways_12 : decode cX10_ways 12 = .ok (.iload_n 3, 1) := by decide +kernel
theorem dX10_ways_13 : decode cX10_ways 13 = .ok (.invokevirtual 117, 3) := by decide +kernel
theorem dX10_ways_16 : decode cX10_ways 16 = .ok (.ireturn, 1) := by decide +kernel
theorem dX10_ways_17 : decode cX10_ways 17 = .ok (.aload_n 0, 1) := by decide +kernel
theorem dX10_ways_18 : decode cX10_ways 18 = .ok (.iload_n 1, 1) := by decide +kernel
theorem dX10_ways_19 : decode cX10_ways 19 = .ok (.iconst (-1), 1) := by decide +kernel
theorem dX10_ways_20 : decode cX10_ways 20 = .ok (.iload_n 2, 1) := by decide +kernel
theorem dX10_ways_21 : decode cX10_ways 21 = .ok (.invokevirtual 362, 3) := by decide +kernel
theorem dX10_ways_24 : decode cX10_ways 24 = .ok (.aload_n 0, 1) := by decide +kernel
theorem dX10_ways_25 : decode cX10_ways 25 = .ok (.aload_n 0, 1) := by decide +kernel
theorem dX10_ways_26 : decode cX10_ways 26 = .ok (.getfield 85, 3) := by decide +kernel
theorem dX10_ways_29 : decode cX10_ways 29 = .ok (.invokevirtual 365, 3) := by decide +kernel
theorem dX10_ways_32 : decode cX10_ways 32 = .ok (.invokevirtual 113, 3) := by decide +kernel
theorem dX10_ways_35 : decode cX10_ways 35 = .ok (.ireturn, 1) := by decide +kernel
theorem dX10_first_0 : decode cX10_first 0 = .ok (.aload_n 0, 1) := by decide +kernel
theorem dX10_first_1 : decode cX10_first 1 = .ok (.iload_n 1, 1) := by decide +kernel
theorem dX10_first_2 : decode cX10_first 2 = .ok (.iload_n 2, 1) := by decide +kernel
theorem dX10_first_3 : decode cX10_first 3 = .ok (.invokevirtual 359, 3) := by decide +kernel
theorem dX10_first_6 : decode cX10_first 6 = .ok (.istore_n 3, 1) := by decide +kernel
theorem dX10_first_7 : decode cX10_first 7 = .ok (.iload_n 3, 1) := by decide +kernel
theorem dX10_first_8 : decode cX10_first 8 = .ok (.ifCond .eq 9, 3) := by decide +kernel
theorem dX10_first_11 : decode cX10_first 11 = .ok (.aload_n 0, 1) := by decide +kernel
theorem dX10_first_12 : decode cX10_first 12 = .ok (.iload_n 3, 1) := by decide +kernel
theorem dX10_first_13 : decode cX10_first 13 = .ok (.invokevirtual 117, 3) := by decide +kernel
theorem dX10_first_16 : decode cX10_first 16 = .ok (.ireturn, 1) := by decide +kernel
theorem dX10_first_17 : decode cX10_first 17 = .ok (.aload_n 0, 1) := by decide +kernel
theorem dX10_first_18 : decode cX10_first 18 = .ok (.iload_n 1, 1) := by decide +kernel
theorem dX10_first_19 : decode cX10_first 19 = .ok (.iconst (-1), 1) := by decide +kernel
theorem dX10_first_20 : decode cX10_first 20 = .ok (.iload_n 2, 1) := by decide +kernel
theorem dX10_first_21 : decode cX10_first 21 = .ok (.invokevirtual 362, 3) := by decide +kernel
theorem dX10_first_24 : decode cX10_first 24 = .ok (.aload_n 0, 1) := by decide +kernel
theorem dX10_first_25 : decode cX10_first 25 = .ok (.getfield 85, 3) := by decide +kernel
theorem dX10_first_28 : decode cX10_first 28 = .ok (.invokevirtual 365, 3) := by decide +kernel
theorem dX10_first_31 : decode cX10_first 31 = .ok (.ifCond .ne 10, 3) := by decide +kernel
theorem dX10_first_34 : decode cX10_first 34 = .ok (.aload_n 0, 1) := by decide +kernel
theorem dX10_first_35 : decode cX10_first 35 = .ok (.bipush 6, 2) := by decide +kernel
theorem dX10_first_37 : decode cX10_first 37 = .ok (.invokevirtual 117, 3) := by decide +kernel
theorem dX10_first_40 : decode cX10_first 40 = .ok (.ireturn, 1) := by decide +kernel
theorem dX10_first_41 : decode cX10_first 41 = .ok (.aload_n 0, 1) := by decide +kernel
theorem dX10_first_42 : decode cX10_first 42 = .ok (.getfield 85, 3) := by decide +kernel
theorem dX10_first_45 : decode cX10_first 45 = .ok (.aload_n 0, 1) := by decide +kernel
theorem dX10_first_46 : decode cX10_first 46 = .ok (.getfield 50, 3) := by decide +kernel
theorem dX10_first_49 : decode cX10_first 49 = .ok (.invokevirtual 368, 3) := by decide +kernel
theorem dX10_first_52 : decode cX10_first 52 = .ok (.aload_n 0, 1) := by decide +kernel
theorem dX10_first_53 : decode cX10_first 53 = .ok (.aload_n 0, 1) := by decide +kernel
theorem dX10_first_54 : decode cX10_first 54 = .ok (.getfield 85, 3) := by decide +kernel
theorem dX10_first_57 : decode cX10_first 57 = .ok (.getfield 371, 3) := by decide +kernel
theorem dX10_first_60 : decode cX10_first 60 = .ok (.invokevirtual 113, 3) := by decide +kernel
theorem dX10_first_63 : decode cX10_first 63 = .ok (.ireturn, 1) := by decide +kernel
theorem dX10_firstAt_0 : decode cX10_firstAt 0 = .ok (.iload_n 1, 1) := by decide +kernel
theorem dX10_firstAt_1 : decode cX10_firstAt 1 = .ok (.ifCond .lt 14, 3) := by decide +kernel
theorem dX10_firstAt_4 : decode cX10_firstAt 4 = .ok (.iload_n 1, 1) := by decide +kernel
theorem dX10_firstAt_5 : decode cX10_firstAt 5 = .ok (.aload_n 0, 1) := by decide +kernel
theorem dX10_firstAt_6 : decode cX10_firstAt 6 = .ok (.getfield 85, 3) := by decide +kernel
theorem dX10_firstAt_9 : decode cX10_firstAt 9 = .ok (.getfield 371, 3) := by decide +kernel
theorem dX10_firstAt_12 : decode cX10_firstAt 12 = .ok (.if_icmp .lt 10, 3) := by decide +kernel
theorem dX10_firstAt_15 : decode cX10_firstAt 15 = .ok (.aload_n 0, 1) := by decide +kernel
theorem dX10_firstAt_16 : decode cX10_firstAt 16 = .ok (.bipush 6, 2) := by decide +kernel
theorem dX10_firstAt_18 : decode cX10_firstAt 18 = .ok (.invokevirtual 117, 3) := by decide +kernel
theorem dX10_firstAt_21 : decode cX10_firstAt 21 = .ok (.ireturn, 1) := by decide +kernel
theorem dX10_firstAt_22 : decode cX10_firstAt 22 = .ok (.aload_n 0, 1) := by decide +kernel
theorem dX10_firstAt_23 : decode cX10_firstAt 23 = .ok (.aload_n 0, 1) := by decide +kernel
theorem dX10_firstAt_24 : decode cX10_firstAt 24 = .ok (.getfield 85, 3) := by decide +kernel
theorem dX10_firstAt_27 : decode cX10_firstAt 27 = .ok (.getfield 374, 3) := by decide +kernel
theorem dX10_firstAt_30 : decode cX10_firstAt 30 = .ok (.iload_n 1, 1) := by decide +kernel
theorem dX10_firstAt_31 : decode cX10_firstAt 31 = .ok (.iaload, 1) := by decide +kernel
theorem dX10_firstAt_32 : decode cX10_firstAt 32 = .ok (.invokevirtual 113, 3) := by decide +kernel
theorem dX10_firstAt_35 : decode cX10_firstAt 35 = .ok (.ireturn, 1) := by decide +kernel
theorem dX10_letters_0 : decode cX10_letters 0 = .ok (.aload_n 0, 1) := by decide +kernel
theorem dX10_letters_1 : decode cX10_letters 1 = .ok (.aload_n 0, 1) := by decide +kernel
theorem dX10_letters_2 : decode cX10_letters 2 = .ok (.getfield 85, 3) := by decide +kernel
theorem dX10_letters_5 : decode cX10_letters 5 = .ok (.getfield 371, 3) := by decide +kernel
theorem dX10_letters_8 : decode cX10_letters 8 = .ok (.ifCond .le 7, 3) := by decide +kernel
theorem dX10_letters_11 : decode cX10_letters 11 = .ok (.iconst 1, 1) := by decide +kernel
theorem dX10_letters_12 : decode cX10_letters 12 = .ok (.goto 4, 3) := by decide +kernel
theorem dX10_letters_15 : decode cX10_letters 15 = .ok (.iconst 0, 1) := by decide +kernel
theorem dX10_letters_16 : decode cX10_letters 16 = .ok (.aload_n 0, 1) := by decide +kernel
theorem dX10_letters_17 : decode cX10_letters 17 = .ok (.getfield 85, 3) := by decide +kernel
theorem dX10_letters_20 : decode cX10_letters 20 = .ok (.getfield 377, 3) := by decide +kernel
theorem dX10_letters_23 : decode cX10_letters 23 = .ok (.bipush 6, 2) := by decide +kernel
theorem dX10_letters_25 : decode cX10_letters 25 = .ok (.invokevirtual 209, 3) := by decide +kernel
theorem dX10_letters_28 : decode cX10_letters 28 = .ok (.ireturn, 1) := by decide +kernel
theorem dX10_truths_0 : decode cX10_truths 0 = .ok (.aload_n 0, 1) := by decide +kernel
theorem dX10_truths_1 : decode cX10_truths 1 = .ok (.iload_n 1, 1) := by decide +kernel
theorem dX10_truths_2 : decode cX10_truths 2 = .ok (.iload_n 2, 1) := by decide +kernel
theorem dX10_truths_3 : decode cX10_truths 3 = .ok (.invokevirtual 359, 3) := by decide +kernel
theorem dX10_truths_6 : decode cX10_truths 6 = .ok (.istore_n 3, 1) := by decide +kernel
theorem dX10_truths_7 : decode cX10_truths 7 = .ok (.iload_n 3, 1) := by decide +kernel
theorem dX10_truths_8 : decode cX10_truths 8 = .ok (.ifCond .eq 9, 3) := by decide +kernel
theorem dX10_truths_11 : decode cX10_truths 11 = .ok (.aload_n 0, 1) := by decide +kernel
theorem dX10_truths_12 : decode cX10_truths 12 = .ok (.iload_n 3, 1) := by decide +kernel
theorem dX10_truths_13 : decode cX10_truths 13 = .ok (.invokevirtual 117, 3) := by decide +kernel
theorem dX10_truths_16 : decode cX10_truths 16 = .ok (.ireturn, 1) := by decide +kernel
theorem dX10_truths_17 : decode cX10_truths 17 = .ok (.aload_n 0, 1) := by decide +kernel
theorem dX10_truths_18 : decode cX10_truths 18 = .ok (.iload_n 1, 1) := by decide +kernel
theorem dX10_truths_19 : decode cX10_truths 19 = .ok (.iconst (-1), 1) := by decide +kernel
theorem dX10_truths_20 : decode cX10_truths 20 = .ok (.iload_n 2, 1) := by decide +kernel
theorem dX10_truths_21 : decode cX10_truths 21 = .ok (.invokevirtual 362, 3) := by decide +kernel
theorem dX10_truths_24 : decode cX10_truths 24 = .ok (.aload_n 0, 1) := by decide +kernel
theorem dX10_truths_25 : decode cX10_truths 25 = .ok (.getfield 85, 3) := by decide +kernel
theorem dX10_truths_28 : decode cX10_truths 28 = .ok (.invokevirtual 365, 3) := by decide +kernel
theorem dX10_truths_31 : decode cX10_truths 31 = .ok (.sipush 9999, 3) := by decide +kernel
theorem dX10_truths_34 : decode cX10_truths 34 = .ok (.if_icmp .le 10, 3) := by decide +kernel
theorem dX10_truths_37 : decode cX10_truths 37 = .ok (.aload_n 0, 1) := by decide +kernel
theorem dX10_truths_38 : decode cX10_truths 38 = .ok (.bipush 7, 2) := by decide +kernel
theorem dX10_truths_40 : decode cX10_truths 40 = .ok (.invokevirtual 117, 3) := by decide +kernel
theorem dX10_truths_43 : decode cX10_truths 43 = .ok (.ireturn, 1) := by decide +kernel
theorem dX10_truths_44 : decode cX10_truths 44 = .ok (.aload_n 0, 1) := by decide +kernel
theorem dX10_truths_45 : decode cX10_truths 45 = .ok (.aload_n 0, 1) := by decide +kernel
theorem dX10_truths_46 : decode cX10_truths 46 = .ok (.getfield 85, 3) := by decide +kernel
theorem dX10_truths_49 : decode cX10_truths 49 = .ok (.aload_n 0, 1) := by decide +kernel
theorem dX10_truths_50 : decode cX10_truths 50 = .ok (.getfield 50, 3) := by decide +kernel
theorem dX10_truths_53 : decode cX10_truths 53 = .ok (.invokevirtual 380, 3) := by decide +kernel
theorem dX10_truths_56 : decode cX10_truths 56 = .ok (.invokevirtual 113, 3) := by decide +kernel
theorem dX10_truths_59 : decode cX10_truths 59 = .ok (.ireturn, 1) := by decide +kernel
theorem dX10_failed_0 : decode cX10_failed 0 = .ok (.aload_n 0, 1) := by decide +kernel
theorem dX10_failed_1 : decode cX10_failed 1 = .ok (.iload_n 1, 1) := by decide +kernel
theorem dX10_failed_2 : decode cX10_failed 2 = .ok (.iload_n 2, 1) := by decide +kernel
theorem dX10_failed_3 : decode cX10_failed 3 = .ok (.iload_n 3, 1) := by decide +kernel
theorem dX10_failed_4 : decode cX10_failed 4 = .ok (.invokevirtual 383, 3) := by decide +kernel
theorem dX10_failed_7 : decode cX10_failed 7 = .ok (.istore 4, 2) := by decide +kernel
theorem dX10_failed_9 : decode cX10_failed 9 = .ok (.iload 4, 2) := by decide +kernel
theorem dX10_failed_11 : decode cX10_failed 11 = .ok (.ifCond .eq 10, 3) := by decide +kernel
theorem dX10_failed_14 : decode cX10_failed 14 = .ok (.aload_n 0, 1) := by decide +kernel
theorem dX10_failed_15 : decode cX10_failed 15 = .ok (.iload 4, 2) := by decide +kernel
theorem dX10_failed_17 : decode cX10_failed 17 = .ok (.invokevirtual 117, 3) := by decide +kernel
theorem dX10_failed_20 : decode cX10_failed 20 = .ok (.ireturn, 1) := by decide +kernel
theorem dX10_failed_21 : decode cX10_failed 21 = .ok (.aload_n 0, 1) := by decide +kernel
theorem dX10_failed_22 : decode cX10_failed 22 = .ok (.iload_n 1, 1) := by decide +kernel
theorem dX10_failed_23 : decode cX10_failed 23 = .ok (.iload_n 2, 1) := by decide +kernel
theorem dX10_failed_24 : decode cX10_failed 24 = .ok (.iload_n 3, 1) := by decide +kernel
theorem dX10_failed_25 : decode cX10_failed 25 = .ok (.invokevirtual 362, 3) := by decide +kernel
theorem dX10_failed_28 : decode cX10_failed 28 = .ok (.aload_n 0, 1) := by decide +kernel
theorem dX10_failed_29 : decode cX10_failed 29 = .ok (.aload_n 0, 1) := by decide +kernel
theorem dX10_failed_30 : decode cX10_failed 30 = .ok (.getfield 85, 3) := by decide +kernel
theorem dX10_failed_33 : decode cX10_failed 33 = .ok (.invokevirtual 365, 3) := by decide +kernel
theorem dX10_failed_36 : decode cX10_failed 36 = .ok (.invokevirtual 113, 3) := by decide +kernel
theorem dX10_failed_39 : decode cX10_failed 39 = .ok (.ireturn, 1) := by decide +kernel
theorem dX10_mirror_0 : decode cX10_mirror 0 = .ok (.iload_n 1, 1) := by decide +kernel
theorem dX10_mirror_1 : decode cX10_mirror 1 = .ok (.iconst 1, 1) := by decide +kernel
theorem dX10_mirror_2 : decode cX10_mirror 2 = .ok (.if_icmp .lt 9, 3) := by decide +kernel
theorem dX10_mirror_5 : decode cX10_mirror 5 = .ok (.iload_n 1, 1) := by decide +kernel
theorem dX10_mirror_6 : decode cX10_mirror 6 = .ok (.bipush 63, 2) := by decide +kernel
theorem dX10_mirror_8 : decode cX10_mirror 8 = .ok (.if_icmp .le 9, 3) := by decide +kernel
theorem dX10_mirror_11 : decode cX10_mirror 11 = .ok (.aload_n 0, 1) := by decide +kernel
theorem dX10_mirror_12 : decode cX10_mirror 12 = .ok (.iconst 1, 1) := by decide +kernel
theorem dX10_mirror_13 : decode cX10_mirror 13 = .ok (.invokevirtual 117, 3) := by decide +kernel
theorem dX10_mirror_16 : decode cX10_mirror 16 = .ok (.ireturn, 1) := by decide +kernel
theorem dX10_mirror_17 : decode cX10_mirror 17 = .ok (.aload_n 0, 1) := by decide +kernel
theorem dX10_mirror_18 : decode cX10_mirror 18 = .ok (.iload_n 1, 1) := by decide +kernel
theorem dX10_mirror_19 : decode cX10_mirror 19 = .ok (.invokestatic 387, 3) := by decide +kernel
theorem dX10_mirror_22 : decode cX10_mirror 22 = .ok (.invokevirtual 113, 3) := by decide +kernel
theorem dX10_mirror_25 : decode cX10_mirror 25 = .ok (.ireturn, 1) := by decide +kernel
theorem dX10_mirrorOf_0 : decode cX10_mirrorOf 0 = .ok (.iload_n 0, 1) := by decide +kernel
theorem dX10_mirrorOf_1 : decode cX10_mirrorOf 1 = .ok (.bipush 7, 2) := by decide +kernel
theorem dX10_mirrorOf_3 : decode cX10_mirrorOf 3 = .ok (.iand, 1) := by decide +kernel
theorem dX10_mirrorOf_4 : decode cX10_mirrorOf 4 = .ok (.iconst 3, 1) := by decide +kernel
theorem dX10_mirrorOf_5 : decode cX10_mirrorOf 5 = .ok (.ishl, 1) := by decide +kernel
theorem dX10_mirrorOf_6 : decode cX10_mirrorOf 6 = .ok (.iload_n 0, 1) := by decide +kernel
theorem dX10_mirrorOf_7 : decode cX10_mirrorOf 7 = .ok (.iconst 3, 1) := by decide +kernel
theorem dX10_mirrorOf_8 : decode cX10_mirrorOf 8 = .ok (.ishr, 1) := by decide +kernel
theorem dX10_mirrorOf_9 : decode cX10_mirrorOf 9 = .ok (.ior, 1) := by decide +kernel
theorem dX10_mirrorOf_10 : decode cX10_mirrorOf 10 = .ok (.ireturn, 1) := by decide +kernel
theorem dX10_turned_0 : decode cX10_turned 0 = .ok (.aload_n 0, 1) := by decide +kernel
theorem dX10_turned_1 : decode cX10_turned 1 = .ok (.getfield 50, 3) := by decide +kernel
theorem dX10_turned_4 : decode cX10_turned 4 = .ok (.iload_n 1, 1) := by decide +kernel
theorem dX10_turned_5 : decode cX10_turned 5 = .ok (.invokevirtual 213, 3) := by decide +kernel
theorem dX10_turned_8 : decode cX10_turned 8 = .ok (.ifCond .ne 9, 3) := by decide +kernel
theorem dX10_turned_11 : decode cX10_turned 11 = .ok (.aload_n 0, 1) := by decide +kernel
theorem dX10_turned_12 : decode cX10_turned 12 = .ok (.iconst 1, 1) := by decide +kernel
theorem dX10_turned_13 : decode cX10_turned 13 = .ok (.invokevirtual 117, 3) := by decide +kernel
theorem dX10_turned_16 : decode cX10_turned 16 = .ok (.ireturn, 1) := by decide +kernel
theorem dX10_turned_17 : decode cX10_turned 17 = .ok (.iconst 0, 1) := by decide +kernel
theorem dX10_turned_18 : decode cX10_turned 18 = .ok (.istore_n 2, 1) := by decide +kernel
theorem dX10_turned_19 : decode cX10_turned 19 = .ok (.iload_n 2, 1) := by decide +kernel
theorem dX10_turned_20 : decode cX10_turned 20 = .ok (.aload_n 0, 1) := by decide +kernel
theorem dX10_turned_21 : decode cX10_turned 21 = .ok (.getfield 50, 3) := by decide +kernel
theorem dX10_turned_24 : decode cX10_turned 24 = .ok (.getfield 181, 3) := by decide +kernel
theorem dX10_turned_27 : decode cX10_turned 27 = .ok (.if_icmp .ge 27, 3) := by decide +kernel
theorem dX10_turned_30 : decode cX10_turned 30 = .ok (.aload_n 0, 1) := by decide +kernel
theorem dX10_turned_31 : decode cX10_turned 31 = .ok (.getfield 50, 3) := by decide +kernel
theorem dX10_turned_34 : decode cX10_turned 34 = .ok (.iload_n 1, 1) := by decide +kernel
theorem dX10_turned_35 : decode cX10_turned 35 = .ok (.iload_n 2, 1) := by decide +kernel
theorem dX10_turned_36 : decode cX10_turned 36 = .ok (.invokevirtual 390, 3) := by decide +kernel
theorem dX10_turned_39 : decode cX10_turned 39 = .ok (.ifCond .eq 9, 3) := by decide +kernel
theorem dX10_turned_42 : decode cX10_turned 42 = .ok (.aload_n 0, 1) := by decide +kernel
theorem dX10_turned_43 : decode cX10_turned 43 = .ok (.iload_n 2, 1) := by decide +kernel
theorem dX10_turned_44 : decode cX10_turned 44 = .ok (.invokevirtual 113, 3) := by decide +kernel
theorem dX10_turned_47 : decode cX10_turned 47 = .ok (.ireturn, 1) := by decide +kernel
theorem dX10_turned_48 : decode cX10_turned 48 = .ok (.iinc 2 1, 3) := by decide +kernel
theorem dX10_turned_51 : decode cX10_turned 51 = .ok (.goto (-32), 3) := by decide +kernel
theorem dX10_turned_54 : decode cX10_turned 54 = .ok (.aload_n 0, 1) := by decide +kernel
theorem dX10_turned_55 : decode cX10_turned 55 = .ok (.bipush 6, 2) := by decide +kernel
theorem dX10_turned_57 : decode cX10_turned 57 = .ok (.invokevirtual 117, 3) := by decide +kernel
theorem dX10_turned_60 : decode cX10_turned 60 = .ok (.ireturn, 1) := by decide +kernel
theorem dX10_twins_0 : decode cX10_twins 0 = .ok (.aload_n 0, 1) := by decide +kernel
theorem dX10_twins_1 : decode cX10_twins 1 = .ok (.aload_n 0, 1) := by decide +kernel
theorem dX10_twins_2 : decode cX10_twins 2 = .ok (.getfield 50, 3) := by decide +kernel
theorem dX10_twins_5 : decode cX10_twins 5 = .ok (.invokevirtual 394, 3) := by decide +kernel
theorem dX10_twins_8 : decode cX10_twins 8 = .ok (.invokevirtual 113, 3) := by decide +kernel
theorem dX10_twins_11 : decode cX10_twins 11 = .ok (.ireturn, 1) := by decide +kernel
theorem dX10_near_0 : decode cX10_near 0 = .ok (.aload_n 0, 1) := by decide +kernel
theorem dX10_near_1 : decode cX10_near 1 = .ok (.getfield 50, 3) := by decide +kernel
theorem dX10_near_4 : decode cX10_near 4 = .ok (.iload_n 1, 1) := by decide +kernel
theorem dX10_near_5 : decode cX10_near 5 = .ok (.invokevirtual 213, 3) := by decide +kernel
theorem dX10_near_8 : decode cX10_near 8 = .ok (.ifCond .eq 14, 3) := by decide +kernel
theorem dX10_near_11 : decode cX10_near 11 = .ok (.aload_n 0, 1) := by decide +kernel
theorem dX10_near_12 : decode cX10_near 12 = .ok (.getfield 50, 3) := by decide +kernel
theorem dX10_near_15 : decode cX10_near 15 = .ok (.iload_n 2, 1) := by decide +kernel
theorem dX10_near_16 : decode cX10_near 16 = .ok (.invokevirtual 213, 3) := by decide +kernel
theorem dX10_near_19 : decode cX10_near 19 = .ok (.ifCond .ne 9, 3) := by decide +kernel
theorem dX10_near_22 : decode cX10_near 22 = .ok (.aload_n 0, 1) := by decide +kernel
theorem dX10_near_23 : decode cX10_near 23 = .ok (.iconst 1, 1) := by decide +kernel
theorem dX10_near_24 : decode cX10_near 24 = .ok (.invokevirtual 117, 3) := by decide +kernel
theorem dX10_near_27 : decode cX10_near 27 = .ok (.ireturn, 1) := by decide +kernel
theorem dX10_near_28 : decode cX10_near 28 = .ok (.aload_n 0, 1) := by decide +kernel
theorem dX10_near_29 : decode cX10_near 29 = .ok (.getfield 50, 3) := by decide +kernel
theorem dX10_near_32 : decode cX10_near 32 = .ok (.getfield 219, 3) := by decide +kernel
theorem dX10_near_35 : decode cX10_near 35 = .ok (.iload_n 1, 1) := by decide +kernel
theorem dX10_near_36 : decode cX10_near 36 = .ok (.iaload, 1) := by decide +kernel
theorem dX10_near_37 : decode cX10_near 37 = .ok (.aload_n 0, 1) := by decide +kernel
theorem dX10_near_38 : decode cX10_near 38 = .ok (.getfield 50, 3) := by decide +kernel
theorem dX10_near_41 : decode cX10_near 41 = .ok (.getfield 219, 3) := by decide +kernel
theorem dX10_near_44 : decode cX10_near 44 = .ok (.iload_n 2, 1) := by decide +kernel
theorem dX10_near_45 : decode cX10_near 45 = .ok (.iaload, 1) := by decide +kernel
theorem dX10_near_46 : decode cX10_near 46 = .ok (.if_icmp .eq 10, 3) := by decide +kernel
theorem dX10_near_49 : decode cX10_near 49 = .ok (.aload_n 0, 1) := by decide +kernel
theorem dX10_near_50 : decode cX10_near 50 = .ok (.bipush 7, 2) := by decide +kernel
theorem dX10_near_52 : decode cX10_near 52 = .ok (.invokevirtual 117, 3) := by decide +kernel
theorem dX10_near_55 : decode cX10_near 55 = .ok (.ireturn, 1) := by decide +kernel
theorem dX10_near_56 : decode cX10_near 56 = .ok (.aload_n 0, 1) := by decide +kernel
theorem dX10_near_57 : decode cX10_near 57 = .ok (.aload_n 0, 1) := by decide +kernel
theorem dX10_near_58 : decode cX10_near 58 = .ok (.getfield 50, 3) := by decide +kernel
theorem dX10_near_61 : decode cX10_near 61 = .ok (.iload_n 1, 1) := by decide +kernel
theorem dX10_near_62 : decode cX10_near 62 = .ok (.iload_n 2, 1) := by decide +kernel
theorem dX10_near_63 : decode cX10_near 63 = .ok (.invokevirtual 397, 3) := by decide +kernel
theorem dX10_near_66 : decode cX10_near 66 = .ok (.invokevirtual 113, 3) := by decide +kernel
theorem dX10_near_69 : decode cX10_near 69 = .ok (.ireturn, 1) := by decide +kernel
theorem dX10_clash_0 : decode cX10_clash 0 = .ok (.aload_n 0, 1) := by decide +kernel
theorem dX10_clash_1 : decode cX10_clash 1 = .ok (.getfield 50, 3) := by decide +kernel
theorem dX10_clash_4 : decode cX10_clash 4 = .ok (.iload_n 1, 1) := by decide +kernel
theorem dX10_clash_5 : decode cX10_clash 5 = .ok (.invokevirtual 213, 3) := by decide +kernel
theorem dX10_clash_8 : decode cX10_clash 8 = .ok (.ifCond .eq 14, 3) := by decide +kernel
theorem dX10_clash_11 : decode cX10_clash 11 = .ok (.aload_n 0, 1) := by decide +kernel
theorem dX10_clash_12 : decode cX10_clash 12 = .ok (.getfield 50, 3) := by decide +kernel
theorem dX10_clash_15 : decode cX10_clash 15 = .ok (.iload_n 2, 1) := by decide +kernel
theorem dX10_clash_16 : decode cX10_clash 16 = .ok (.invokevirtual 213, 3) := by decide +kernel
theorem dX10_clash_19 : decode cX10_clash 19 = .ok (.ifCond .ne 9, 3) := by decide +kernel
theorem dX10_clash_22 : decode cX10_clash 22 = .ok (.aload_n 0, 1) := by decide +kernel
theorem dX10_clash_23 : decode cX10_clash 23 = .ok (.iconst 1, 1) := by decide +kernel
theorem dX10_clash_24 : decode cX10_clash 24 = .ok (.invokevirtual 117, 3) := by decide +kernel
theorem dX10_clash_27 : decode cX10_clash 27 = .ok (.ireturn, 1) := by decide +kernel
theorem dX10_clash_28 : decode cX10_clash 28 = .ok (.aload_n 0, 1) := by decide +kernel
theorem dX10_clash_29 : decode cX10_clash 29 = .ok (.aload_n 0, 1) := by decide +kernel
theorem dX10_clash_30 : decode cX10_clash 30 = .ok (.getfield 50, 3) := by decide +kernel
theorem dX10_clash_33 : decode cX10_clash 33 = .ok (.iload_n 1, 1) := by decide +kernel
theorem dX10_clash_34 : decode cX10_clash 34 = .ok (.iload_n 2, 1) := by decide +kernel
theorem dX10_clash_35 : decode cX10_clash 35 = .ok (.invokevirtual 400, 3) := by decide +kernel
theorem dX10_clash_38 : decode cX10_clash 38 = .ok (.ifCond .eq 7, 3) := by decide +kernel
theorem dX10_clash_41 : decode cX10_clash 41 = .ok (.iconst 1, 1) := by decide +kernel
theorem dX10_clash_42 : decode cX10_clash 42 = .ok (.goto 4, 3) := by decide +kernel
theorem dX10_clash_45 : decode cX10_clash 45 = .ok (.iconst 0, 1) := by decide +kernel
theorem dX10_clash_46 : decode cX10_clash 46 = .ok (.invokevirtual 113, 3) := by decide +kernel
theorem dX10_clash_49 : decode cX10_clash 49 = .ok (.ireturn, 1) := by decide +kernel
theorem dX10_clashes_0 : decode cX10_clashes 0 = .ok (.aload_n 0, 1) := by decide +kernel
theorem dX10_clashes_1 : decode cX10_clashes 1 = .ok (.aload_n 0, 1) := by decide +kernel
theorem dX10_clashes_2 : decode cX10_clashes 2 = .ok (.getfield 50, 3) := by decide +kernel
theorem dX10_clashes_5 : decode cX10_clashes 5 = .ok (.invokevirtual 403, 3) := by decide +kernel
theorem dX10_clashes_8 : decode cX10_clashes 8 = .ok (.invokevirtual 113, 3) := by decide +kernel
theorem dX10_clashes_11 : decode cX10_clashes 11 = .ok (.ireturn, 1) := by decide +kernel
theorem dX10_clear_0 : decode cX10_clear 0 = .ok (.aload_n 0, 1) := by decide +kernel
theorem dX10_clear_1 : decode cX10_clear 1 = .ok (.aload_n 0, 1) := by decide +kernel
theorem dX10_clear_2 : decode cX10_clear 2 = .ok (.getfield 92, 3) := by decide +kernel
theorem dX10_clear_5 : decode cX10_clear 5 = .ok (.aload_n 0, 1) := by decide +kernel
theorem dX10_clear_6 : decode cX10_clear 6 = .ok (.getfield 50, 3) := by decide +kernel
theorem dX10_clear_9 : decode cX10_clear 9 = .ok (.invokevirtual 406, 3) := by decide +kernel
theorem dX10_clear_12 : decode cX10_clear 12 = .ok (.iconst (-1), 1) := by decide +kernel
theorem dX10_clear_13 : decode cX10_clear 13 = .ok (.if_icmp .ne 7, 3) := by decide +kernel
theorem dX10_clear_16 : decode cX10_clear 16 = .ok (.iconst 1, 1) := by decide +kernel
theorem dX10_clear_17 : decode cX10_clear 17 = .ok (.goto 4, 3) := by decide +kernel
theorem dX10_clear_20 : decode cX10_clear 20 = .ok (.iconst 0, 1) := by decide +kernel
theorem dX10_clear_21 : decode cX10_clear 21 = .ok (.invokevirtual 113, 3) := by decide +kernel
theorem dX10_clear_24 : decode cX10_clear 24 = .ok (.ireturn, 1) := by decide +kernel
theorem dX10_twin_0 : decode cX10_twin 0 = .ok (.aload_n 0, 1) := by decide +kernel
theorem dX10_twin_1 : decode cX10_twin 1 = .ok (.getfield 92, 3) := by decide +kernel
theorem dX10_twin_4 : decode cX10_twin 4 = .ok (.aload_n 0, 1) := by decide +kernel
theorem dX10_twin_5 : decode cX10_twin 5 = .ok (.getfield 50, 3) := by decide +kernel
theorem dX10_twin_8 : decode cX10_twin 8 = .ok (.invokevirtual 406, 3) := by decide +kernel
theorem dX10_twin_11 : decode cX10_twin 11 = .ok (.istore_n 1, 1) := by decide +kernel
theorem dX10_twin_12 : decode cX10_twin 12 = .ok (.aload_n 0, 1) := by decide +kernel
theorem dX10_twin_13 : decode cX10_twin 13 = .ok (.iload_n 1, 1) := by decide +kernel
theorem dX10_twin_14 : decode cX10_twin 14 = .ok (.iconst (-1), 1) := by decide +kernel
theorem dX10_twin_15 : decode cX10_twin 15 = .ok (.if_icmp .eq 7, 3) := by decide +kernel
theorem dX10_twin_18 : decode cX10_twin 18 = .ok (.iconst 1, 1) := by decide +kernel
theorem dX10_twin_19 : decode cX10_twin 19 = .ok (.goto 4, 3) := by decide +kernel
theorem dX10_twin_22 : decode cX10_twin 22 = .ok (.iconst 0, 1) := by decide +kernel
theorem dX10_twin_23 : decode cX10_twin 23 = .ok (.iload_n 1, 1) := by decide +kernel
theorem dX10_twin_24 : decode cX10_twin 24 = .ok (.bipush 6, 2) := by decide +kernel
theorem dX10_twin_26 : decode cX10_twin 26 = .ok (.invokevirtual 209, 3) := by decide +kernel
theorem dX10_twin_29 : decode cX10_twin 29 = .ok (.ireturn, 1) := by decide +kernel
theorem dX10_lacks_0 : decode cX10_lacks 0 = .ok (.iconst 0, 1) := by decide +kernel
theorem dX10_lacks_1 : decode cX10_lacks 1 = .ok (.istore_n 1, 1) := by decide +kernel
theorem dX10_lacks_2 : decode cX10_lacks 2 = .ok (.iconst 1, 1) := by decide +kernel
theorem dX10_lacks_3 : decode cX10_lacks 3 = .ok (.istore_n 2, 1) := by decide +kernel
theorem dX10_lacks_4 : decode cX10_lacks 4 = .ok (.iload_n 2, 1) := by decide +kernel
theorem dX10_lacks_5 : decode cX10_lacks 5 = .ok (.bipush 26, 2) := by decide +kernel
theorem dX10_lacks_7 : decode cX10_lacks 7 = .ok (.if_icmp .gt 36, 3) := by decide +kernel
theorem dX10_lacks_10 : decode cX10_lacks 10 = .ok (.aload_n 0, 1) := by decide +kernel
theorem dX10_lacks_11 : decode cX10_lacks 11 = .ok (.getfield 50, 3) := by decide +kernel
theorem dX10_lacks_14 : decode cX10_lacks 14 = .ok (.iload_n 2, 1) := by decide +kernel
theorem dX10_lacks_15 : decode cX10_lacks 15 = .ok (.aload_n 0, 1) := by decide +kernel
theorem dX10_lacks_16 : decode cX10_lacks 16 = .ok (.getfield 50, 3) := by decide +kernel
theorem dX10_lacks_19 : decode cX10_lacks 19 = .ok (.getfield 184, 3) := by decide +kernel
theorem dX10_lacks_22 : decode cX10_lacks 22 = .ok (.invokevirtual 409, 3) := by decide +kernel
theorem dX10_lacks_25 : decode cX10_lacks 25 = .ok (.iconst (-1), 1) := by decide +kernel
theorem dX10_lacks_26 : decode cX10_lacks 26 = .ok (.if_icmp .ne 11, 3) := by decide +kernel
theorem dX10_lacks_29 : decode cX10_lacks 29 = .ok (.iload_n 1, 1) := by decide +kernel
theorem dX10_lacks_30 : decode cX10_lacks 30 = .ok (.iconst 1, 1) := by decide +kernel
theorem dX10_lacks_31 : decode cX10_lacks 31 = .ok (.iload_n 2, 1) := by decide +kernel
theorem dX10_lacks_32 : decode cX10_lacks 32 = .ok (.iconst 1, 1) := by decide +kernel
theorem dX10_lacks_33 : decode cX10_lacks 33 = .ok (.isub, 1) := by decide +kernel
theorem dX10_lacks_34 : decode cX10_lacks 34 = .ok (.ishl, 1) := by decide +kernel
theorem dX10_lacks_35 : decode cX10_lacks 35 = .ok (.ior, 1) := by decide +kernel
theorem dX10_lacks_36 : decode cX10_lacks 36 = .ok (.istore_n 1, 1) := by decide +kernel
theorem dX10_lacks_37 : decode cX10_lacks 37 = .ok (.iinc 2 1, 3) := by decide +kernel
theorem dX10_lacks_40 : decode cX10_lacks 40 = .ok (.goto (-36), 3) := by decide +kernel
theorem dX10_lacks_43 : decode cX10_lacks 43 = .ok (.aload_n 0, 1) := by decide +kernel
theorem dX10_lacks_44 : decode cX10_lacks 44 = .ok (.iload_n 1, 1) := by decide +kernel
theorem dX10_lacks_45 : decode cX10_lacks 45 = .ok (.invokevirtual 113, 3) := by decide +kernel
theorem dX10_lacks_48 : decode cX10_lacks 48 = .ok (.ireturn, 1) := by decide +kernel
theorem dX10_areDraws_0 : decode cX10_areDraws 0 = .ok (.iload_n 0, 1) := by decide +kernel
theorem dX10_areDraws_1 : decode cX10_areDraws 1 = .ok (.ifCond .lt 24, 3) := by decide +kernel
theorem dX10_areDraws_4 : decode cX10_areDraws 4 = .ok (.iload_n 0, 1) := by decide +kernel
theorem dX10_areDraws_5 : decode cX10_areDraws 5 = .ok (.sipush 9999, 3) := by decide +kernel
theorem dX10_areDraws_8 : decode cX10_areDraws 8 = .ok (.if_icmp .gt 17, 3) := by decide +kernel
theorem dX10_areDraws_11 : decode cX10_areDraws 11 = .ok (.iload_n 1, 1) := by decide +kernel
theorem dX10_areDraws_12 : decode cX10_areDraws 12 = .ok (.ifCond .lt 13, 3) := by decide +kernel
theorem dX10_areDraws_15 : decode cX10_areDraws 15 = .ok (.iload_n 1, 1) := by decide +kernel
theorem dX10_areDraws_16 : decode cX10_areDraws 16 = .ok (.bipush 16, 2) := by decide +kernel
theorem dX10_areDraws_18 : decode cX10_areDraws 18 = .ok (.if_icmp .gt 7, 3) := by decide +kernel
theorem dX10_areDraws_21 : decode cX10_areDraws 21 = .ok (.iconst 1, 1) := by decide +kernel
theorem dX10_areDraws_22 : decode cX10_areDraws 22 = .ok (.goto 4, 3) := by decide +kernel
theorem dX10_areDraws_25 : decode cX10_areDraws 25 = .ok (.iconst 0, 1) := by decide +kernel
theorem dX10_areDraws_26 : decode cX10_areDraws 26 = .ok (.ireturn, 1) := by decide +kernel
theorem dX10_worn_0 : decode cX10_worn 0 = .ok (.iload_n 1, 1) := by decide +kernel
theorem dX10_worn_1 : decode cX10_worn 1 = .ok (.iload_n 2, 1) := by decide +kernel
theorem dX10_worn_2 : decode cX10_worn 2 = .ok (.invokestatic 412, 3) := by decide +kernel
theorem dX10_worn_5 : decode cX10_worn 5 = .ok (.ifCond .ne 9, 3) := by decide +kernel
theorem dX10_worn_8 : decode cX10_worn 8 = .ok (.aload_n 0, 1) := by decide +kernel
theorem dX10_worn_9 : decode cX10_worn 9 = .ok (.iconst 1, 1) := by decide +kernel
theorem dX10_worn_10 : decode cX10_worn 10 = .ok (.invokevirtual 117, 3) := by decide +kernel
theorem dX10_worn_13 : decode cX10_worn 13 = .ok (.ireturn, 1) := by decide +kernel
theorem dX10_worn_14 : decode cX10_worn 14 = .ok (.aload_n 0, 1) := by decide +kernel
theorem dX10_worn_15 : decode cX10_worn 15 = .ok (.getfield 61, 3) := by decide +kernel
theorem dX10_worn_18 : decode cX10_worn 18 = .ok (.ifCond .ne 10, 3) := by decide +kernel
theorem dX10_worn_21 : decode cX10_worn 21 = .ok (.aload_n 0, 1) := by decide +kernel
theorem dX10_worn_22 : decode cX10_worn 22 = .ok (.bipush 6, 2) := by decide +kernel
theorem dX10_worn_24 : decode cX10_worn 24 = .ok (.invokevirtual 117, 3) := by decide +kernel
theorem dX10_worn_27 : decode cX10_worn 27 = .ok (.ireturn, 1) := by decide +kernel
theorem dX10_worn_28 : decode cX10_worn 28 = .ok (.aload_n 0, 1) := by decide +kernel
theorem dX10_worn_29 : decode cX10_worn 29 = .ok (.aload_n 0, 1) := by decide +kernel
theorem dX10_worn_30 : decode cX10_worn 30 = .ok (.getfield 99, 3) := by decide +kernel
theorem dX10_worn_33 : decode cX10_worn 33 = .ok (.aload_n 0, 1) := by decide +kernel
theorem dX10_worn_34 : decode cX10_worn 34 = .ok (.getfield 68, 3) := by decide +kernel
theorem dX10_worn_37 : decode cX10_worn 37 = .ok (.iload_n 1, 1) := by decide +kernel
theorem dX10_worn_38 : decode cX10_worn 38 = .ok (.iload_n 2, 1) := by decide +kernel
theorem dX10_worn_39 : decode cX10_worn 39 = .ok (.invokevirtual 415, 3) := by decide +kernel
theorem dX10_worn_42 : decode cX10_worn 42 = .ok (.invokevirtual 113, 3) := by decide +kernel
theorem dX10_worn_45 : decode cX10_worn 45 = .ok (.ireturn, 1) := by decide +kernel
theorem dX10_wornAt_0 : decode cX10_wornAt 0 = .ok (.iload_n 1, 1) := by decide +kernel
theorem dX10_wornAt_1 : decode cX10_wornAt 1 = .ok (.ifCond .lt 14, 3) := by decide +kernel
theorem dX10_wornAt_4 : decode cX10_wornAt 4 = .ok (.iload_n 1, 1) := by decide +kernel
theorem dX10_wornAt_5 : decode cX10_wornAt 5 = .ok (.aload_n 0, 1) := by decide +kernel
theorem dX10_wornAt_6 : decode cX10_wornAt 6 = .ok (.getfield 99, 3) := by decide +kernel
theorem dX10_wornAt_9 : decode cX10_wornAt 9 = .ok (.getfield 419, 3) := by decide +kernel
theorem dX10_wornAt_12 : decode cX10_wornAt 12 = .ok (.if_icmp .lt 10, 3) := by decide +kernel
theorem dX10_wornAt_15 : decode cX10_wornAt 15 = .ok (.aload_n 0, 1) := by decide +kernel
theorem dX10_wornAt_16 : decode cX10_wornAt 16 = .ok (.bipush 6, 2) := by decide +kernel
theorem dX10_wornAt_18 : decode cX10_wornAt 18 = .ok (.invokevirtual 117, 3) := by decide +kernel
theorem dX10_wornAt_21 : decode cX10_wornAt 21 = .ok (.ireturn, 1) := by decide +kernel
theorem dX10_wornAt_22 : decode cX10_wornAt 22 = .ok (.aload_n 0, 1) := by decide +kernel
theorem dX10_wornAt_23 : decode cX10_wornAt 23 = .ok (.aload_n 0, 1) := by decide +kernel
theorem dX10_wornAt_24 : decode cX10_wornAt 24 = .ok (.getfield 99, 3) := by decide +kernel
theorem dX10_wornAt_27 : decode cX10_wornAt 27 = .ok (.getfield 420, 3) := by decide +kernel
theorem dX10_wornAt_30 : decode cX10_wornAt 30 = .ok (.iload_n 1, 1) := by decide +kernel
theorem dX10_wornAt_31 : decode cX10_wornAt 31 = .ok (.iaload, 1) := by decide +kernel
theorem dX10_wornAt_32 : decode cX10_wornAt 32 = .ok (.invokevirtual 113, 3) := by decide +kernel
theorem dX10_wornAt_35 : decode cX10_wornAt 35 = .ok (.ireturn, 1) := by decide +kernel
theorem dX10_odds_0 : decode cX10_odds 0 = .ok (.iload_n 1, 1) := by decide +kernel
theorem dX10_odds_1 : decode cX10_odds 1 = .ok (.iload_n 3, 1) := by decide +kernel
theorem dX10_odds_2 : decode cX10_odds 2 = .ok (.invokestatic 412, 3) := by decide +kernel
theorem dX10_odds_5 : decode cX10_odds 5 = .ok (.ifCond .eq 18, 3) := by decide +kernel
theorem dX10_odds_8 : decode cX10_odds 8 = .ok (.iload_n 2, 1) := by decide +kernel
theorem dX10_odds_9 : decode cX10_odds 9 = .ok (.iconst 1, 1) := by decide +kernel
theorem dX10_odds_10 : decode cX10_odds 10 = .ok (.if_icmp .lt 13, 3) := by decide +kernel
theorem dX10_odds_13 : decode cX10_odds 13 = .ok (.iload_n 2, 1) := by decide +kernel
theorem dX10_odds_14 : decode cX10_odds 14 = .ok (.bipush 20, 2) := by decide +kernel
theorem dX10_odds_16 : decode cX10_odds 16 = .ok (.if_icmp .gt 7, 3) := by decide +kernel
theorem dX10_odds_19 : decode cX10_odds 19 = .ok (.iconst 1, 1) := by decide +kernel
theorem dX10_odds_20 : decode cX10_odds 20 = .ok (.goto 4, 3) := by decide +kernel
theorem dX10_odds_23 : decode cX10_odds 23 = .ok (.iconst 0, 1) := by decide +kernel
theorem dX10_odds_24 : decode cX10_odds 24 = .ok (.istore 4, 2) := by decide +kernel
theorem dX10_odds_26 : decode cX10_odds 26 = .ok (.iload 4, 2) := by decide +kernel
theorem dX10_odds_28 : decode cX10_odds 28 = .ok (.ifCond .eq 14, 3) := by decide +kernel
theorem dX10_odds_31 : decode cX10_odds 31 = .ok (.iload_n 1, 1) := by decide +kernel
theorem dX10_odds_32 : decode cX10_odds 32 = .ok (.iload_n 2, 1) := by decide +kernel
theorem dX10_odds_33 : decode cX10_odds 33 = .ok (.iadd, 1) := by decide +kernel
theorem dX10_odds_34 : decode cX10_odds 34 = .ok (.iconst 1, 1) := by decide +kernel
theorem dX10_odds_35 : decode cX10_odds 35 = .ok (.isub, 1) := by decide +kernel
theorem dX10_odds_36 : decode cX10_odds 36 = .ok (.sipush 9999, 3) := by decide +kernel
theorem dX10_odds_39 : decode cX10_odds 39 = .ok (.if_icmp .le 9, 3) := by decide +kernel
theorem dX10_odds_42 : decode cX10_odds 42 = .ok (.aload_n 0, 1) := by decide +kernel
theorem dX10_odds_43 : decode cX10_odds 43 = .ok (.iconst 1, 1) := by decide +kernel
theorem dX10_odds_44 : decode cX10_odds 44 = .ok (.invokevirtual 127, 3) := by decide +kernel
theorem dX10_odds_47 : decode cX10_odds 47 = .ok (.ireturn, 1) := by decide +kernel
theorem dX10_odds_48 : decode cX10_odds 48 = .ok (.aload_n 0, 1) := by decide +kernel
theorem dX10_odds_49 : decode cX10_odds 49 = .ok (.getfield 61, 3) := by decide +kernel
theorem dX10_odds_52 : decode cX10_odds 52 = .ok (.ifCond .ne 10, 3) := by decide +kernel
theorem dX10_odds_55 : decode cX10_odds 55 = .ok (.aload_n 0, 1) := by decide +kernel
theorem dX10_odds_56 : decode cX10_odds 56 = .ok (.bipush 6, 2) := by decide +kernel
theorem dX10_odds_58 : decode cX10_odds 58 = .ok (.invokevirtual 127, 3) := by decide +kernel
theorem dX10_odds_61 : decode cX10_odds 61 = .ok (.ireturn, 1) := by decide +kernel
theorem dX10_odds_62 : decode cX10_odds 62 = .ok (.iconst 0, 1) := by decide +kernel
theorem dX10_odds_63 : decode cX10_odds 63 = .ok (.istore 5, 2) := by decide +kernel
theorem dX10_odds_65 : decode cX10_odds 65 = .ok (.iconst 0, 1) := by decide +kernel
theorem dX10_odds_66 : decode cX10_odds 66 = .ok (.istore 6, 2) := by decide +kernel
theorem dX10_odds_68 : decode cX10_odds 68 = .ok (.iload 6, 2) := by decide +kernel
theorem dX10_odds_70 : decode cX10_odds 70 = .ok (.iload_n 2, 1) := by decide +kernel
theorem dX10_odds_71 : decode cX10_odds 71 = .ok (.if_icmp .ge 31, 3) := by decide +kernel
theorem dX10_odds_74 : decode cX10_odds 74 = .ok (.aload_n 0, 1) := by decide +kernel
theorem dX10_odds_75 : decode cX10_odds 75 = .ok (.getfield 99, 3) := by decide +kernel
theorem dX10_odds_78 : decode cX10_odds 78 = .ok (.aload_n 0, 1) := by decide +kernel
theorem dX10_odds_79 : decode cX10_odds 79 = .ok (.getfield 68, 3) := by decide +kernel
theorem dX10_odds_82 : decode cX10_odds 82 = .ok (.iload_n 1, 1) := by decide +kernel
theorem dX10_odds_83 : decode cX10_odds 83 = .ok (.iload 6, 2) := by decide +kernel
theorem dX10_odds_85 : decode cX10_odds 85 = .ok (.iadd, 1) := by decide +kernel
theorem dX10_odds_86 : decode cX10_odds 86 = .ok (.iload_n 3, 1) := by decide +kernel
theorem dX10_odds_87 : decode cX10_odds 87 = .ok (.invokevirtual 421, 3) := by decide +kernel
theorem dX10_odds_90 : decode cX10_odds 90 = .ok (.ifCond .eq 6, 3) := by decide +kernel
theorem dX10_odds_93 : decode cX10_odds 93 = .ok (.iinc 5 1, 3) := by decide +kernel
theorem dX10_odds_96 : decode cX10_odds 96 = .ok (.iinc 6 1, 3) := by decide +kernel
theorem dX10_odds_99 : decode cX10_odds 99 = .ok (.goto (-31), 3) := by decide +kernel
theorem dX10_odds_102 : decode cX10_odds 102 = .ok (.aload_n 0, 1) := by decide +kernel
theorem dX10_odds_103 : decode cX10_odds 103 = .ok (.iload 5, 2) := by decide +kernel
theorem dX10_odds_105 : decode cX10_odds 105 = .ok (.iload_n 2, 1) := by decide +kernel
theorem dX10_odds_106 : decode cX10_odds 106 = .ok (.invokevirtual 425, 3) := by decide +kernel
theorem dX10_odds_109 : decode cX10_odds 109 = .ok (.aload_n 0, 1) := by decide +kernel
theorem dX10_odds_110 : decode cX10_odds 110 = .ok (.invokevirtual 134, 3) := by decide +kernel
theorem dX10_odds_113 : decode cX10_odds 113 = .ok (.ireturn, 1) := by decide +kernel
theorem dX10_tellFraction_0 : decode cX10_tellFraction 0 = .ok (.iconst 1, 1) := by decide +kernel
theorem dX10_tellFraction_1 : decode cX10_tellFraction 1 = .ok (.istore_n 3, 1) := by decide +kernel
theorem dX10_tellFraction_2 : decode cX10_tellFraction 2 = .ok (.iconst 2, 1) := by decide +kernel
theorem dX10_tellFraction_3 : decode cX10_tellFraction 3 = .ok (.istore 4, 2) := by decide +kernel
theorem dX10_tellFraction_5 : decode cX10_tellFraction 5 = .ok (.iload 4, 2) := by decide +kernel
theorem dX10_tellFraction_7 : decode cX10_tellFraction 7 = .ok (.iload_n 2, 1) := by decide +kernel
theorem dX10_tellFraction_8 : decode cX10_tellFraction 8 = .ok (.if_icmp .gt 26, 3) := by decide +kernel
theorem dX10_tellFraction_11 : decode cX10_tellFraction 11 = .ok (.iload_n 1, 1) := by decide +kernel
theorem dX10_tellFraction_12 : decode cX10_tellFraction 12 = .ok (.iload 4, 2) := by decide +kernel
theorem dX10_tellFraction_14 : decode cX10_tellFraction 14 = .ok (.irem, 1) := by decide +kernel
theorem dX10_tellFraction_15 : decode cX10_tellFraction 15 = .ok (.ifCond .ne 13, 3) := by decide +kernel
theorem dX10_tellFraction_18 : decode cX10_tellFraction 18 = .ok (.iload_n 2, 1) := by decide +kernel
theorem dX10_tellFraction_19 : decode cX10_tellFraction 19 = .ok (.iload 4, 2) := by decide +kernel
theorem dX10_tellFraction_21 : decode cX10_tellFraction 21 = .ok (.irem, 1) := by decide +kernel
theorem dX10_tellFraction_22 : decode cX10_tellFraction 22 = .ok (.ifCond .ne 6, 3) := by decide +kernel
theorem dX10_tellFraction_25 : decode cX10_tellFraction 25 = .ok (.iload 4, 2) := by decide +kernel
theorem dX10_tellFraction_27 : decode cX10_tellFraction 27 = .ok (.istore_n 3, 1) := by decide +kernel
theorem dX10_tellFraction_28 : decode cX10_tellFraction 28 = .ok (.iinc 4 1, 3) := by decide +kernel
theorem dX10_tellFraction_31 : decode cX10_tellFraction 31 = .ok (.goto (-26), 3) := by decide +kernel
theorem dX10_tellFraction_34 : decode cX10_tellFraction 34 = .ok (.aload_n 0, 1) := by decide +kernel
theorem dX10_tellFraction_35 : decode cX10_tellFraction 35 = .ok (.iload_n 1, 1) := by decide +kernel
theorem dX10_tellFraction_36 : decode cX10_tellFraction 36 = .ok (.iload_n 3, 1) := by decide +kernel
theorem dX10_tellFraction_37 : decode cX10_tellFraction 37 = .ok (.idiv, 1) := by decide +kernel
theorem dX10_tellFraction_38 : decode cX10_tellFraction 38 = .ok (.i2l, 1) := by decide +kernel
theorem dX10_tellFraction_39 : decode cX10_tellFraction 39 = .ok (.putfield 26, 3) := by decide +kernel
theorem dX10_tellFraction_42 : decode cX10_tellFraction 42 = .ok (.aload_n 0, 1) := by decide +kernel
theorem dX10_tellFraction_43 : decode cX10_tellFraction 43 = .ok (.iload_n 2, 1) := by decide +kernel
theorem dX10_tellFraction_44 : decode cX10_tellFraction 44 = .ok (.iload_n 3, 1) := by decide +kernel
theorem dX10_tellFraction_45 : decode cX10_tellFraction 45 = .ok (.idiv, 1) := by decide +kernel
theorem dX10_tellFraction_46 : decode cX10_tellFraction 46 = .ok (.i2l, 1) := by decide +kernel
theorem dX10_tellFraction_47 : decode cX10_tellFraction 47 = .ok (.putfield 30, 3) := by decide +kernel
theorem dX10_tellFraction_50 : decode cX10_tellFraction 50 = .ok (.return_, 1) := by decide +kernel
theorem dX10_mark_0 : decode cX10_mark 0 = .ok (.aload_n 0, 1) := by decide +kernel
theorem dX10_mark_1 : decode cX10_mark 1 = .ok (.getfield 109, 3) := by decide +kernel
theorem dX10_mark_4 : decode cX10_mark 4 = .ok (.iconst 3, 1) := by decide +kernel
theorem dX10_mark_5 : decode cX10_mark 5 = .ok (.if_icmp .lt 9, 3) := by decide +kernel
theorem dX10_mark_8 : decode cX10_mark 8 = .ok (.aload_n 0, 1) := by decide +kernel
theorem dX10_mark_9 : decode cX10_mark 9 = .ok (.iconst 4, 1) := by decide +kernel
theorem dX10_mark_10 : decode cX10_mark 10 = .ok (.invokevirtual 117, 3) := by decide +kernel
theorem dX10_mark_13 : decode cX10_mark 13 = .ok (.ireturn, 1) := by decide +kernel
theorem dX10_mark_14 : decode cX10_mark 14 = .ok (.aload_n 0, 1) := by decide +kernel
theorem dX10_mark_15 : decode cX10_mark 15 = .ok (.getfield 105, 3) := by decide +kernel
theorem dX10_mark_18 : decode cX10_mark 18 = .ok (.aload_n 0, 1) := by decide +kernel
theorem dX10_mark_19 : decode cX10_mark 19 = .ok (.getfield 109, 3) := by decide +kernel
theorem dX10_mark_22 : decode cX10_mark 22 = .ok (.aaload, 1) := by decide +kernel
theorem dX10_mark_23 : decode cX10_mark 23 = .ok (.aload_n 0, 1) := by decide +kernel
theorem dX10_mark_24 : decode cX10_mark 24 = .ok (.getfield 50, 3) := by decide +kernel
theorem dX10_mark_27 : decode cX10_mark 27 = .ok (.aload_n 0, 1) := by decide +kernel
theorem dX10_mark_28 : decode cX10_mark 28 = .ok (.getfield 57, 3) := by decide +kernel
theorem dX10_mark_31 : decode cX10_mark 31 = .ok (.aload_n 0, 1) := by decide +kernel
theorem dX10_mark_32 : decode cX10_mark 32 = .ok (.getfield 61, 3) := by decide +kernel
theorem dX10_mark_35 : decode cX10_mark 35 = .ok (.aload_n 0, 1) := by decide +kernel
theorem dX10_mark_36 : decode cX10_mark 36 = .ok (.getfield 68, 3) := by decide +kernel
theorem dX10_mark_39 : decode cX10_mark 39 = .ok (.getfield 429, 3) := by decide +kernel
theorem dX10_mark_42 : decode cX10_mark 42 = .ok (.invokevirtual 430, 3) := by decide +kernel
theorem dX10_mark_45 : decode cX10_mark 45 = .ok (.aload_n 0, 1) := by decide +kernel
theorem dX10_mark_46 : decode cX10_mark 46 = .ok (.dup, 1) := by decide +kernel
theorem dX10_mark_47 : decode cX10_mark 47 = .ok (.getfield 109, 3) := by decide +kernel
theorem dX10_mark_50 : decode cX10_mark 50 = .ok (.iconst 1, 1) := by decide +kernel
theorem dX10_mark_51 : decode cX10_mark 51 = .ok (.iadd, 1) := by decide +kernel
theorem dX10_mark_52 : decode cX10_mark 52 = .ok (.putfield 109, 3) := by decide +kernel
theorem dX10_mark_55 : decode cX10_mark 55 = .ok (.aload_n 0, 1) := by decide +kernel
theorem dX10_mark_56 : decode cX10_mark 56 = .ok (.aload_n 0, 1) := by decide +kernel
theorem dX10_mark_57 : decode cX10_mark 57 = .ok (.getfield 109, 3) := by decide +kernel
theorem dX10_mark_60 : decode cX10_mark 60 = .ok (.invokevirtual 113, 3) := by decide +kernel
theorem dX10_mark_63 : decode cX10_mark 63 = .ok (.ireturn, 1) := by decide +kernel
theorem dX10_back_0 : decode cX10_back 0 = .ok (.aload_n 0, 1) := by decide +kernel
theorem dX10_back_1 : decode cX10_back 1 = .ok (.getfield 109, 3) := by decide +kernel
theorem dX10_back_4 : decode cX10_back 4 = .ok (.ifCond .gt 10, 3) := by decide +kernel
theorem dX10_back_7 : decode cX10_back 7 = .ok (.aload_n 0, 1) := by decide +kernel
theorem dX10_back_8 : decode cX10_back 8 = .ok (.bipush 6, 2) := by decide +kernel
theorem dX10_back_10 : decode cX10_back 10 = .ok (.invokevirtual 117, 3) := by decide +kernel
theorem dX10_back_13 : decode cX10_back 13 = .ok (.ireturn, 1) := by decide +kernel
theorem dX10_back_14 : decode cX10_back 14 = .ok (.aload_n 0, 1) := by decide +kernel
theorem dX10_back_15 : decode cX10_back 15 = .ok (.dup, 1) := by decide +kernel
theorem dX10_back_16 : decode cX10_back 16 = .ok (.getfield 109, 3) := by decide +kernel
theorem dX10_back_19 : decode cX10_back 19 = .ok (.iconst 1, 1) := by decide +kernel
theorem dX10_back_20 : decode cX10_back 20 = .ok (.isub, 1) := by decide +kernel
theorem dX10_back_21 : decode cX10_back 21 = .ok (.putfield 109, 3) := by decide +kernel
theorem dX10_back_24 : decode cX10_back 24 = .ok (.aload_n 0, 1) := by decide +kernel
theorem dX10_back_25 : decode cX10_back 25 = .ok (.getfield 105, 3) := by decide +kernel
theorem dX10_back_28 : decode cX10_back 28 = .ok (.aload_n 0, 1) := by decide +kernel
theorem dX10_back_29 : decode cX10_back 29 = .ok (.getfield 109, 3) := by decide +kernel
theorem dX10_back_32 : decode cX10_back 32 = .ok (.aaload, 1) := by decide +kernel
theorem dX10_back_33 : decode cX10_back 33 = .ok (.astore_n 1, 1) := by decide +kernel
theorem dX10_back_34 : decode cX10_back 34 = .ok (.aload_n 0, 1) := by decide +kernel
theorem dX10_back_35 : decode cX10_back 35 = .ok (.getfield 50, 3) := by decide +kernel
theorem dX10_back_38 : decode cX10_back 38 = .ok (.aload_n 1, 1) := by decide +kernel
theorem dX10_back_39 : decode cX10_back 39 = .ok (.getfield 434, 3) := by decide +kernel
theorem dX10_back_42 : decode cX10_back 42 = .ok (.invokevirtual 177, 3) := by decide +kernel
theorem dX10_back_45 : decode cX10_back 45 = .ok (.aload_n 0, 1) := by decide +kernel
theorem dX10_back_46 : decode cX10_back 46 = .ok (.getfield 57, 3) := by decide +kernel
theorem dX10_back_49 : decode cX10_back 49 = .ok (.aload_n 1, 1) := by decide +kernel
theorem dX10_back_50 : decode cX10_back 50 = .ok (.getfield 435, 3) := by decide +kernel
theorem dX10_back_53 : decode cX10_back 53 = .ok (.getfield 234, 3) := by decide +kernel
theorem dX10_back_56 : decode cX10_back 56 = .ok (.aload_n 1, 1) := by decide +kernel
theorem dX10_back_57 : decode cX10_back 57 = .ok (.getfield 435, 3) := by decide +kernel
theorem dX10_back_60 : decode cX10_back 60 = .ok (.getfield 237, 3) := by decide +kernel
theorem dX10_back_63 : decode cX10_back 63 = .ok (.invokevirtual 193, 3) := by decide +kernel
theorem dX10_back_66 : decode cX10_back 66 = .ok (.aload_n 0, 1) := by decide +kernel
theorem dX10_back_67 : decode cX10_back 67 = .ok (.iconst 0, 1) := by decide +kernel
theorem dX10_back_68 : decode cX10_back 68 = .ok (.putfield 61, 3) := by decide +kernel
theorem dX10_back_71 : decode cX10_back 71 = .ok (.aload_n 1, 1) := by decide +kernel
theorem dX10_back_72 : decode cX10_back 72 = .ok (.getfield 436, 3) := by decide +kernel
theorem dX10_back_75 : decode cX10_back 75 = .ok (.ifCond .eq 39, 3) := by decide +kernel
theorem dX10_back_78 : decode cX10_back 78 = .ok (.aload_n 0, 1) := by decide +kernel
theorem dX10_back_79 : decode cX10_back 79 = .ok (.getfield 72, 3) := by decide +kernel
theorem dX10_back_82 : decode cX10_back 82 = .ok (.aload_n 0, 1) := by decide +kernel
theorem dX10_back_83 : decode cX10_back 83 = .ok (.getfield 57, 3) := by decide +kernel
theorem dX10_back_86 : decode cX10_back 86 = .ok (.getfield 234, 3) := by decide +kernel
theorem dX10_back_89 : decode cX10_back 89 = .ok (.aload_n 0, 1) := by decide +kernel
theorem dX10_back_90 : decode cX10_back 90 = .ok (.getfield 57, 3) := by decide +kernel
theorem dX10_back_93 : decode cX10_back 93 = .ok (.getfield 237, 3) := by decide +kernel
theorem dX10_back_96 : decode cX10_back 96 = .ok (.aload_n 0, 1) := by decide +kernel
theorem dX10_back_97 : decode cX10_back 97 = .ok (.getfield 50, 3) := by decide +kernel
theorem dX10_back_100 : decode cX10_back 100 = .ok (.aload_n 1, 1) := by decide +kernel
theorem dX10_back_101 : decode cX10_back 101 = .ok (.getfield 437, 3) := by decide +kernel
theorem dX10_back_104 : decode cX10_back 104 = .ok (.invokevirtual 187, 3) := by decide +kernel
theorem dX10_back_107 : decode cX10_back 107 = .ok (.ifCond .eq 7, 3) := by decide +kernel
theorem dX10_back_110 : decode cX10_back 110 = .ok (.aload_n 0, 1) := by decide +kernel
theorem dX10_back_111 : decode cX10_back 111 = .ok (.invokevirtual 197, 3) := by decide +kernel
theorem dX10_back_114 : decode cX10_back 114 = .ok (.aload_n 0, 1) := by decide +kernel
theorem dX10_back_115 : decode cX10_back 115 = .ok (.aload_n 0, 1) := by decide +kernel
theorem dX10_back_116 : decode cX10_back 116 = .ok (.getfield 109, 3) := by decide +kernel
theorem dX10_back_119 : decode cX10_back 119 = .ok (.invokevirtual 113, 3) := by decide +kernel
theorem dX10_back_122 : decode cX10_back 122 = .ok (.ireturn, 1) := by decide +kernel
theorem dX10_isBlank_0 : decode cX10_isBlank 0 = .ok (.iload_n 0, 1) := by decide +kernel
theorem dX10_isBlank_1 : decode cX10_isBlank 1 = .ok (.bipush 10, 2) := by decide +kernel
theorem dX10_isBlank_3 : decode cX10_isBlank 3 = .ok (.if_icmp .eq 9, 3) := by decide +kernel
theorem dX10_isBlank_6 : decode cX10_isBlank 6 = .ok (.iload_n 0, 1) := by decide +kernel
theorem dX10_isBlank_7 : decode cX10_isBlank 7 = .ok (.bipush 32, 2) := by decide +kernel
theorem dX10_isBlank_9 : decode cX10_isBlank 9 = .ok (.if_icmp .ne 7, 3) := by decide +kernel
theorem dX10_isBlank_12 : decode cX10_isBlank 12 = .ok (.iconst 1, 1) := by decide +kernel
theorem dX10_isBlank_13 : decode cX10_isBlank 13 = .ok (.goto 4, 3) := by decide +kernel
theorem dX10_isBlank_16 : decode cX10_isBlank 16 = .ok (.iconst 0, 1) := by decide +kernel
theorem dX10_isBlank_17 : decode cX10_isBlank 17 = .ok (.ireturn, 1) := by decide +kernel
theorem dX10_isDigit_0 : decode cX10_isDigit 0 = .ok (.iload_n 0, 1) := by decide +kernel
theorem dX10_isDigit_1 : decode cX10_isDigit 1 = .ok (.bipush 48, 2) := by decide +kernel
theorem dX10_isDigit_3 : decode cX10_isDigit 3 = .ok (.if_icmp .lt 13, 3) := by decide +kernel
theorem dX10_isDigit_6 : decode cX10_isDigit 6 = .ok (.iload_n 0, 1) := by decide +kernel
theorem dX10_isDigit_7 : decode cX10_isDigit 7 = .ok (.bipush 57, 2) := by decide +kernel
theorem dX10_isDigit_9 : decode cX10_isDigit 9 = .ok (.if_icmp .gt 7, 3) := by decide +kernel
theorem dX10_isDigit_12 : decode cX10_isDigit 12 = .ok (.iconst 1, 1) := by decide +kernel
theorem dX10_isDigit_13 : decode cX10_isDigit 13 = .ok (.goto 4, 3) := by decide +kernel
theorem dX10_isDigit_16 : decode cX10_isDigit 16 = .ok (.iconst 0, 1) := by decide +kernel
theorem dX10_isDigit_17 : decode cX10_isDigit 17 = .ok (.ireturn, 1) := by decide +kernel
theorem dX10_isSmall_0 : decode cX10_isSmall 0 = .ok (.iload_n 0, 1) := by decide +kernel
theorem dX10_isSmall_1 : decode cX10_isSmall 1 = .ok (.bipush 97, 2) := by decide +kernel
theorem dX10_isSmall_3 : decode cX10_isSmall 3 = .ok (.if_icmp .lt 13, 3) := by decide +kernel
theorem dX10_isSmall_6 : decode cX10_isSmall 6 = .ok (.iload_n 0, 1) := by decide +kernel
theorem dX10_isSmall_7 : decode cX10_isSmall 7 = .ok (.bipush 122, 2) := by decide +kernel
theorem dX10_isSmall_9 : decode cX10_isSmall 9 = .ok (.if_icmp .gt 7, 3) := by decide +kernel
theorem dX10_isSmall_12 : decode cX10_isSmall 12 = .ok (.iconst 1, 1) := by decide +kernel
theorem dX10_isSmall_13 : decode cX10_isSmall 13 = .ok (.goto 4, 3) := by decide +kernel
theorem dX10_isSmall_16 : decode cX10_isSmall 16 = .ok (.iconst 0, 1) := by decide +kernel
theorem dX10_isSmall_17 : decode cX10_isSmall 17 = .ok (.ireturn, 1) := by decide +kernel
theorem dX10_isGreat_0 : decode cX10_isGreat 0 = .ok (.iload_n 0, 1) := by decide +kernel
theorem dX10_isGreat_1 : decode cX10_isGreat 1 = .ok (.bipush 65, 2) := by decide +kernel
theorem dX10_isGreat_3 : decode cX10_isGreat 3 = .ok (.if_icmp .lt 13, 3) := by decide +kernel
theorem dX10_isGreat_6 : decode cX10_isGreat 6 = .ok (.iload_n 0, 1) := by decide +kernel
theorem dX10_isGreat_7 : decode cX10_isGreat 7 = .ok (.bipush 90, 2) := by decide +kernel
theorem dX10_isGreat_9 : decode cX10_isGreat 9 = .ok (.if_icmp .gt 7, 3) := by decide +kernel
theorem dX10_isGreat_12 : decode cX10_isGreat 12 = .ok (.iconst 1, 1) := by decide +kernel
theorem dX10_isGreat_13 : decode cX10_isGreat 13 = .ok (.goto 4, 3) := by decide +kernel
theorem dX10_isGreat_16 : decode cX10_isGreat 16 = .ok (.iconst 0, 1) := by decide +kernel
theorem dX10_isGreat_17 : decode cX10_isGreat 17 = .ok (.ireturn, 1) := by decide +kernel
theorem dX10_isLetter_0 : decode cX10_isLetter 0 = .ok (.iload_n 0, 1) := by decide +kernel
theorem dX10_isLetter_1 : decode cX10_isLetter 1 = .ok (.invokestatic 440, 3) := by decide +kernel
theorem dX10_isLetter_4 : decode cX10_isLetter 4 = .ok (.ifCond .ne 10, 3) := by decide +kernel
theorem dX10_isLetter_7 : decode cX10_isLetter 7 = .ok (.iload_n 0, 1) := by decide +kernel
theorem dX10_isLetter_8 : decode cX10_isLetter 8 = .ok (.invokestatic 443, 3) := by decide +kernel
theorem dX10_isLetter_11 : decode cX10_isLetter 11 = .ok (.ifCond .eq 7, 3) := by decide +kernel
theorem dX10_isLetter_14 : decode cX10_isLetter 14 = .ok (.iconst 1, 1) := by decide +kernel
theorem dX10_isLetter_15 : decode cX10_isLetter 15 = .ok (.goto 4, 3) := by decide +kernel
theorem dX10_isLetter_18 : decode cX10_isLetter 18 = .ok (.iconst 0, 1) := by decide +kernel
theorem dX10_isLetter_19 : decode cX10_isLetter 19 = .ok (.ireturn, 1) := by decide +kernel
theorem dX10_letterOf_0 : decode cX10_letterOf 0 = .ok (.iload_n 0, 1) := by decide +kernel
theorem dX10_letterOf_1 : decode cX10_letterOf 1 = .ok (.bipush 31, 2) := by decide +kernel
theorem dX10_letterOf_3 : decode cX10_letterOf 3 = .ok (.iand, 1) := by decide +kernel
theorem dX10_letterOf_4 : decode cX10_letterOf 4 = .ok (.ireturn, 1) := by decide +kernel
theorem dX10_letterOfDigit_0 : decode cX10_letterOfDigit 0 = .ok (.iload_n 0, 1) := by decide +kernel
theorem dX10_letterOfDigit_1 : decode cX10_letterOfDigit 1 = .ok (.bipush 48, 2) := by decide +kernel
theorem dX10_letterOfDigit_3 : decode cX10_letterOfDigit 3 = .ok (.if_icmp .ne 8, 3) := by decide +kernel
theorem dX10_letterOfDigit_6 : decode cX10_letterOfDigit 6 = .ok (.bipush 10, 2) := by decide +kernel
theorem dX10_letterOfDigit_8 : decode cX10_letterOfDigit 8 = .ok (.goto 7, 3) := by decide +kernel
theorem dX10_letterOfDigit_11 : decode cX10_letterOfDigit 11 = .ok (.iload_n 0, 1) := by decide +kernel
theorem dX10_letterOfDigit_12 : decode cX10_letterOfDigit 12 = .ok (.bipush 48, 2) := by decide +kernel
theorem dX10_letterOfDigit_14 : decode cX10_letterOfDigit 14 = .ok (.isub, 1) := by decide +kernel
theorem dX10_letterOfDigit_15 : decode cX10_letterOfDigit 15 = .ok (.ireturn, 1) := by decide +kernel
theorem dX10_wordEnd_0 : decode cX10_wordEnd 0 = .ok (.iload_n 2, 1) := by decide +kernel
theorem dX10_wordEnd_1 : decode cX10_wordEnd 1 = .ok (.istore_n 3, 1) := by decide +kernel
theorem dX10_wordEnd_2 : decode cX10_wordEnd 2 = .ok (.iload_n 3, 1) := by decide +kernel
theorem dX10_wordEnd_3 : decode cX10_wordEnd 3 = .ok (.iload_n 1, 1) := by decide +kernel
theorem dX10_wordEnd_4 : decode cX10_wordEnd 4 = .ok (.if_icmp .ge 18, 3) := by decide +kernel
theorem dX10_wordEnd_7 : decode cX10_wordEnd 7 = .ok (.aload_n 0, 1) := by decide +kernel
theorem dX10_wordEnd_8 : decode cX10_wordEnd 8 = .ok (.iload_n 3, 1) := by decide +kernel
theorem dX10_wordEnd_9 : decode cX10_wordEnd 9 = .ok (.iaload, 1) := by decide +kernel
theorem dX10_wordEnd_10 : decode cX10_wordEnd 10 = .ok (.invokestatic 446, 3) := by decide +kernel
theorem dX10_wordEnd_13 : decode cX10_wordEnd 13 = .ok (.ifCond .eq 9, 3) := by decide +kernel
theorem dX10_wordEnd_16 : decode cX10_wordEnd 16 = .ok (.iinc 3 1, 3) := by decide +kernel
theorem dX10_wordEnd_19 : decode cX10_wordEnd 19 = .ok (.goto (-17), 3) := by decide +kernel
theorem dX10_wordEnd_22 : decode cX10_wordEnd 22 = .ok (.iload_n 3, 1) := by decide +kernel
theorem dX10_wordEnd_23 : decode cX10_wordEnd 23 = .ok (.ireturn, 1) := by decide +kernel
theorem dX11_init_0 : decode cX11_init 0 = .ok (.aload_n 0, 1) := by decide +kernel
theorem dX11_init_1 : decode cX11_init 1 = .ok (.invokespecial 1, 3) := by decide +kernel
theorem dX11_init_4 : decode cX11_init 4 = .ok (.aload_n 0, 1) := by decide +kernel
theorem dX11_init_5 : decode cX11_init 5 = .ok (.sipush 19800, 3) := by decide +kernel
theorem dX11_init_8 : decode cX11_init 8 = .ok (.newarray .int, 2) := by decide +kernel
theorem dX11_init_10 : decode cX11_init 10 = .ok (.putfield 7, 3) := by decide +kernel
theorem dX11_init_13 : decode cX11_init 13 = .ok (.aload_n 0, 1) := by decide +kernel
theorem dX11_init_14 : decode cX11_init 14 = .ok (.lconst 1, 1) := by decide +kernel
theorem dX11_init_15 : decode cX11_init 15 = .ok (.putfield 13, 3) := by decide +kernel
theorem dX11_init_18 : decode cX11_init 18 = .ok (.aload_n 0, 1) := by decide +kernel
theorem dX11_init_19 : decode cX11_init 19 = .ok (.iconst 4, 1) := by decide +kernel
theorem dX11_init_20 : decode cX11_init 20 = .ok (.newarray .int, 2) := by decide +kernel
theorem dX11_init_22 : decode cX11_init 22 = .ok (.putfield 17, 3) := by decide +kernel
theorem dX11_init_25 : decode cX11_init 25 = .ok (.aload_n 0, 1) := by decide +kernel
theorem dX11_init_26 : decode cX11_init 26 = .ok (.iconst 4, 1) := by decide +kernel
theorem dX11_init_27 : decode cX11_init 27 = .ok (.newarray .int, 2) := by decide +kernel
theorem dX11_init_29 : decode cX11_init 29 = .ok (.dup, 1) := by decide +kernel
theorem dX11_init_30 : decode cX11_init 30 = .ok (.iconst 0, 1) := by decide +kernel
theorem dX11_init_31 : decode cX11_init 31 = .ok (.iconst (-1), 1) := by decide +kernel
theorem dX11_init_32 : decode cX11_init 32 = .ok (.iastore, 1) := by decide +kernel
theorem dX11_init_33 : decode cX11_init 33 = .ok (.dup, 1) := by decide +kernel
theorem dX11_init_34 : decode cX11_init 34 = .ok (.iconst 1, 1) := by decide +kernel
theorem dX11_init_35 : decode cX11_init 35 = .ok (.iconst (-1), 1) := by decide +kernel
theorem dX11_init_36 : decode cX11_init 36 = .ok (.iastore, 1) := by decide +kernel
theorem dX11_init_37 : decode cX11_init 37 = .ok (.dup, 1) := by decide +kernel
theorem dX11_init_38 : decode cX11_init 38 = .ok (.iconst 2, 1) := by decide +kernel
theorem dX11_init_39 : decode cX11_init 39 = .ok (.iconst (-1), 1) := by decide +kernel
theorem dX11_init_40 : decode cX11_init 40 = .ok (.iastore, 1) := by decide +kernel
theorem dX11_init_41 : decode cX11_init 41 = .ok (.dup, 1) := by decide +kernel
theorem dX11_init_42 : decode cX11_init 42 = .ok (.iconst 3, 1) := by decide +kernel
theorem dX11_init_43 : decode cX11_init 43 = .ok (.iconst (-1), 1) := by decide +kernel
theorem dX11_init_44 : decode cX11_init 44 = .ok (.iastore, 1) := by decide +kernel
theorem dX11_init_45 : decode cX11_init 45 = .ok (.putfield 20, 3) := by decide +kernel
theorem dX11_init_48 : decode cX11_init 48 = .ok (.aload_n 0, 1) := by decide +kernel
theorem dX11_init_49 : decode cX11_init 49 = .ok (.sipush 240, 3) := by decide +kernel
theorem dX11_init_52 : decode cX11_init 52 = .ok (.newarray .long, 2) := by decide +kernel
theorem dX11_init_54 : decode cX11_init 54 = .ok (.putfield 23, 3) := by decide +kernel
theorem dX11_init_57 : decode cX11_init 57 = .ok (.aload_n 0, 1) := by decide +kernel
theorem dX11_init_58 : decode cX11_init 58 = .ok (.sipush 900, 3) := by decide +kernel
theorem dX11_init_61 : decode cX11_init 61 = .ok (.newarray .byte, 2) := by decide +kernel
theorem dX11_init_63 : decode cX11_init 63 = .ok (.putfield 27, 3) := by decide +kernel
theorem dX11_init_66 : decode cX11_init 66 = .ok (.aload_n 0, 1) := by decide +kernel
theorem dX11_init_67 : decode cX11_init 67 = .ok (.sipush 900, 3) := by decide +kernel
theorem dX11_init_70 : decode cX11_init 70 = .ok (.newarray .byte, 2) := by decide +kernel
theorem dX11_init_72 : decode cX11_init 72 = .ok (.putfield 31, 3) := by decide +kernel
theorem dX11_init_75 : decode cX11_init 75 = .ok (.aload_n 0, 1) := by decide +kernel
theorem dX11_init_76 : decode cX11_init 76 = .ok (.iconst (-1), 1) := by decide +kernel
theorem dX11_init_77 : decode cX11_init 77 = .ok (.putfield 34, 3) := by decide +kernel
theorem dX11_init_80 : decode cX11_init 80 = .ok (.aload_n 0, 1) := by decide +kernel
theorem dX11_init_81 : decode cX11_init 81 = .ok (.iconst (-1), 1) := by decide +kernel
theorem dX11_init_82 : decode cX11_init 82 = .ok (.putfield 38, 3) := by decide +kernel
theorem dX11_init_85 : decode cX11_init 85 = .ok (.aload_n 0, 1) := by decide +kernel
theorem dX11_init_86 : decode cX11_init 86 = .ok (.sipush 2600, 3) := by decide +kernel
theorem dX11_init_89 : decode cX11_init 89 = .ok (.newarray .int, 2) := by decide +kernel
theorem dX11_init_91 : decode cX11_init 91 = .ok (.putfield 41, 3) := by decide +kernel
theorem dX11_init_94 : decode cX11_init 94 = .ok (.aload_n 0, 1) := by decide +kernel
theorem dX11_init_95 : decode cX11_init 95 = .ok (.sipush 1300, 3) := by decide +kernel
theorem dX11_init_98 : decode cX11_init 98 = .ok (.newarray .int, 2) := by decide +kernel
theorem dX11_init_100 : decode cX11_init 100 = .ok (.putfield 44, 3) := by decide +kernel
theorem dX11_init_103 : decode cX11_init 103 = .ok (.aload_n 0, 1) := by decide +kernel
theorem dX11_init_104 : decode cX11_init 104 = .ok (.sipush 1300, 3) := by decide +kernel
theorem dX11_init_107 : decode cX11_init 107 = .ok (.newarray .int, 2) := by decide +kernel
theorem dX11_init_109 : decode cX11_init 109 = .ok (.putfield 47, 3) := by decide +kernel
theorem dX11_init_112 : decode cX11_init 112 = .ok (.aload_n 0, 1) := by decide +kernel
theorem dX11_init_113 : decode cX11_init 113 = .ok (.sipush 160, 3) := by decide +kernel
theorem dX11_init_116 : decode cX11_init 116 = .ok (.newarray .int, 2) := by decide +kernel
theorem dX11_init_118 : decode cX11_init 118 = .ok (.putfield 50, 3) := by decide +kernel
theorem dX11_init_121 : decode cX11_init 121 = .ok (.aload_n 0, 1) := by decide +kernel
theorem dX11_init_122 : decode cX11_init 122 = .ok (.sipush 160, 3) := by decide +kernel
theorem dX11_init_125 : decode cX11_init 125 = .ok (.newarray .int, 2) := by decide +kernel
theorem dX11_init_127 : decode cX11_init 127 = .ok (.putfield 53, 3) := by decide +kernel
theorem dX11_init_130 : decode cX11_init 130 = .ok (.aload_n 0, 1) := by decide +kernel
theorem dX11_init_131 : decode cX11_init 131 = .ok (.sipush 160, 3) := by decide +kernel
theorem dX11_init_134 : decode cX11_init 134 = .ok (.newarray .int, 2) := by decide +kernel
theorem dX11_init_136 : decode cX11_init 136 = .ok (.putfield 56, 3) := by decide +kernel
theorem dX11_init_139 : decode cX11_init 139 = .ok (.aload_n 0, 1) := by decide +kernel
theorem dX11_init_140 : decode cX11_init 140 = .ok (.sipush 301, 3) := by decide +kernel
theorem dX11_init_143 : decode cX11_init 143 = .ok (.newarray .int, 2) := by decide +kernel
theorem dX11_init_145 : decode cX11_init 145 = .ok (.putfield 59, 3) := by decide +kernel
theorem dX11_init_148 : decode cX11_init 148 = .ok (.aload_n 0, 1) := by decide +kernel
theorem dX11_init_149 : decode cX11_init 149 = .ok (.bipush 20, 2) := by decide +kernel
theorem dX11_init_151 : decode cX11_init 151 = .ok (.newarray .int, 2) := by decide +kernel
theorem dX11_init_153 : decode cX11_init 153 = .ok (.putfield 62, 3) := by decide +kernel
theorem dX11_init_156 : decode cX11_init 156 = .ok (.aload_n 0, 1) := by decide +kernel
theorem dX11_init_157 : decode cX11_init 157 = .ok (.bipush 20, 2) := by decide +kernel
theorem dX11_init_159 : decode cX11_init 159 = .ok (.newarray .int, 2) := by decide +kernel
theorem dX11_init_161 : decode cX11_init 161 = .ok (.putfield 65, 3) := by decide +kernel
theorem dX11_init_164 : decode cX11_init 164 = .ok (.aload_n 0, 1) := by decide +kernel
theorem dX11_init_165 : decode cX11_init 165 = .ok (.bipush 21, 2) := by decide +kernel
theorem dX11_init_167 : decode cX11_init 167 = .ok (.newarray .int, 2) := by decide +kernel
theorem dX11_init_169 : decode cX11_init 169 = .ok (.putfield 68, 3) := by decide +kernel
theorem dX11_init_172 : decode cX11_init 172 = .ok (.aload_n 0, 1) := by decide +kernel
theorem dX11_init_173 : decode cX11_init 173 = .ok (.bipush 20, 2) := by decide +kernel
theorem dX11_init_175 : decode cX11_init 175 = .ok (.newarray .int, 2) := by decide +kernel
theorem dX11_init_177 : decode cX11_init 177 = .ok (.putfield 71, 3) := by decide +kernel
theorem dX11_init_180 : decode cX11_init 180 = .ok (.aload_n 0, 1) := by decide +kernel
theorem dX11_init_181 : decode cX11_init 181 = .ok (.iconst (-1), 1) := by decide +kernel
theorem dX11_init_182 : decode cX11_init 182 = .ok (.putfield 74, 3) := by decide +kernel
theorem dX11_init_185 : decode cX11_init 185 = .ok (.aload_n 0, 1) := by decide +kernel
theorem dX11_init_186 : decode cX11_init 186 = .ok (.bipush 21, 2) := by decide +kernel
theorem dX11_init_188 : decode cX11_init 188 = .ok (.newarray .int, 2) := by decide +kernel
theorem dX11_init_190 : decode cX11_init 190 = .ok (.putfield 77, 3) := by decide +kernel
theorem dX11_init_193 : decode cX11_init 193 = .ok (.aload_n 0, 1) := by decide +kernel
theorem dX11_init_194 : decode cX11_init 194 = .ok (.bipush 22, 2) := by decide +kernel
theorem dX11_init_196 : decode cX11_init 196 = .ok (.newarray .int, 2) := by decide +kernel
theorem dX11_init_198 : decode cX11_init 198 = .ok (.putfield 80, 3) := by decide +kernel
theorem dX11_init_201 : decode cX11_init 201 = .ok (.aload_n 0, 1) := by decide +kernel
theorem dX11_init_202 : decode cX11_init 202 = .ok (.sipush 4161, 3) := by decide +kernel
theorem dX11_init_205 : decode cX11_init 205 = .ok (.newarray .int, 2) := by decide +kernel
theorem dX11_init_207 : decode cX11_init 207 = .ok (.putfield 83, 3) := by decide +kernel
theorem dX11_init_210 : decode cX11_init 210 = .ok (.aload_n 0, 1) := by decide +kernel
theorem dX11_init_211 : decode cX11_init 211 = .ok (.iconst (-1), 1) := by decide +kernel
theorem dX11_init_212 : decode cX11_init 212 = .ok (.putfield 86, 3) := by decide +kernel
theorem dX11_init_215 : decode cX11_init 215 = .ok (.aload_n 0, 1) := by decide +kernel
theorem dX11_init_216 : decode cX11_init 216 = .ok (.sipush 1250, 3) := by decide +kernel
theorem dX11_init_219 : decode cX11_init 219 = .ok (.newarray .int, 2) := by decide +kernel
theorem dX11_init_221 : decode cX11_init 221 = .ok (.putfield 89, 3) := by decide +kernel
theorem dX11_init_224 : decode cX11_init 224 = .ok (.aload_n 0, 1) := by decide +kernel
theorem dX11_init_225 : decode cX11_init 225 = .ok (.sipush 1250, 3) := by decide +kernel
theorem dX11_init_228 : decode cX11_init 228 = .ok (.newarray .int, 2) := by decide +kernel
theorem dX11_init_230 : decode cX11_init 230 = .ok (.putfield 92, 3) := by decide +kernel
theorem dX11_init_233 : decode cX11_init 233 = .ok (.aload_n 0, 1) := by decide +kernel
theorem dX11_init_234 : decode cX11_init 234 = .ok (.iconst 0, 1) := by decide +kernel
theorem dX11_init_235 : decode cX11_init 235 = .ok (.invokevirtual 95, 3) := by decide +kernel
theorem dX11_init_238 : decode cX11_init 238 = .ok (.return_, 1) := by decide +kernel
theorem dX11_empties_0 : decode cX11_empties 0 = .ok (.iconst 0, 1) := by decide +kernel
theorem dX11_empties_1 : decode cX11_empties 1 = .ok (.istore_n 2, 1) := by decide +kernel
theorem dX11_empties_2 : decode cX11_empties 2 = .ok (.iload_n 2, 1) := by decide +kernel
theorem dX11_empties_3 : decode cX11_empties 3 = .ok (.sipush 3300, 3) := by decide +kernel
theorem dX11_empties_6 : decode cX11_empties 6 = .ok (.if_icmp .ge 18, 3) := by decide +kernel
theorem dX11_empties_9 : decode cX11_empties 9 = .ok (.aload_n 0, 1) := by decide +kernel
theorem dX11_empties_10 : decode cX11_empties 10 = .ok (.getfield 7, 3) := by decide +kernel
theorem dX11_empties_13 : decode cX11_empties 13 = .ok (.iload_n 1, 1) := by decide +kernel
theorem dX11_empties_14 : decode cX11_empties 14 = .ok (.iload_n 2, 1) := by decide +kernel
theorem dX11_empties_15 : decode cX11_empties 15 = .ok (.iadd, 1) := by decide +kernel
theorem dX11_empties_16 : decode cX11_empties 16 = .ok (.iconst 0, 1) := by decide +kernel
theorem dX11_empties_17 : decode cX11_empties 17 = .ok (.iastore, 1) := by decide +kernel
theorem dX11_empties_18 : decode cX11_empties 18 = .ok (.iinc 2 1, 3) := by decide +kernel
theorem dX11_empties_21 : decode cX11_empties 21 = .ok (.goto (-19), 3) := by decide +kernel
theorem dX11_empties_24 : decode cX11_empties 24 = .ok (.aload_n 0, 1) := by decide +kernel
theorem dX11_empties_25 : decode cX11_empties 25 = .ok (.getfield 7, 3) := by decide +kernel
theorem dX11_empties_28 : decode cX11_empties 28 = .ok (.iload_n 1, 1) := by decide +kernel
theorem dX11_empties_29 : decode cX11_empties 29 = .ok (.iconst 4, 1) := by decide +kernel
theorem dX11_empties_30 : decode cX11_empties 30 = .ok (.iadd, 1) := by decide +kernel
theorem dX11_empties_31 : decode cX11_empties 31 = .ok (.bipush 32, 2) := by decide +kernel
theorem dX11_empties_33 : decode cX11_empties 33 = .ok (.iastore, 1) := by decide +kernel
theorem dX11_empties_34 : decode cX11_empties 34 = .ok (.aload_n 0, 1) := by decide +kernel
theorem dX11_empties_35 : decode cX11_empties 35 = .ok (.getfield 7, 3) := by decide +kernel
theorem dX11_empties_38 : decode cX11_empties 38 = .ok (.iload_n 1, 1) := by decide +kernel
theorem dX11_empties_39 : decode cX11_empties 39 = .ok (.iconst 5, 1) := by decide +kernel
theorem dX11_empties_40 : decode cX11_empties 40 = .ok (.iadd, 1) := by decide +kernel
theorem dX11_empties_41 : decode cX11_empties 41 = .ok (.bipush 25, 2) := by decide +kernel
theorem dX11_empties_43 : decode cX11_empties 43 = .ok (.iastore, 1) := by decide +kernel
theorem dX11_empties_44 : decode cX11_empties 44 = .ok (.aload_n 0, 1) := by decide +kernel
theorem dX11_empties_45 : decode cX11_empties 45 = .ok (.getfield 7, 3) := by decide +kernel
theorem dX11_empties_48 : decode cX11_empties 48 = .ok (.iload_n 1, 1) := by decide +kernel
theorem dX11_empties_49 : decode cX11_empties 49 = .ok (.bipush 7, 2) := by decide +kernel
theorem dX11_empties_51 : decode cX11_empties 51 = .ok (.iadd, 1) := by decide +kernel
theorem dX11_empties_52 : decode cX11_empties 52 = .ok (.iconst (-1), 1) := by decide +kernel
theorem dX11_empties_53 : decode cX11_empties 53 = .ok (.iastore, 1) := by decide +kernel
theorem dX11_empties_54 : decode cX11_empties 54 = .ok (.return_, 1) := by decide +kernel
theorem dX11_status_0 : decode cX11_status 0 = .ok (.aload_n 0, 1) := by decide +kernel
theorem dX11_status_1 : decode cX11_status 1 = .ok (.getfield 99, 3) := by decide +kernel
theorem dX11_status_4 : decode cX11_status 4 = .ok (.ireturn, 1) := by decide +kernel
theorem dX11_top_0 : decode cX11_top 0 = .ok (.aload_n 0, 1) := by decide +kernel
theorem dX11_top_1 : decode cX11_top 1 = .ok (.getfield 102, 3) := by decide +kernel
theorem dX11_top_4 : decode cX11_top 4 = .ok (.lreturn, 1) := by decide +kernel
theorem dX11_bottom_0 : decode cX11_bottom 0 = .ok (.aload_n 0, 1) := by decide +kernel
theorem dX11_bottom_1 : decode cX11_bottom 1 = .ok (.getfield 13, 3) := by decide +kernel
theorem dX11_bottom_4 : decode cX11_bottom 4 = .ok (.lreturn, 1) := by decide +kernel
theorem dX11_is_0 : decode cX11_is 0 = .ok (.aload_n 0, 1) := by decide +kernel
theorem dX11_is_1 : decode cX11_is 1 = .ok (.iload_n 1, 1) := by decide +kernel
theorem dX11_is_2 : decode cX11_is 2 = .ok (.putfield 99, 3) := by decide +kernel
theorem dX11_is_5 : decode cX11_is 5 = .ok (.iload_n 1, 1) := by decide +kernel
theorem dX11_is_6 : decode cX11_is 6 = .ok (.ifCond .ne 7, 3) := by decide +kernel
theorem dX11_is_9 : decode cX11_is 9 = .ok (.iconst 1, 1) := by decide +kernel
theorem dX11_is_10 : decode cX11_is 10 = .ok (.goto 4, 3) := by decide +kernel
theorem dX11_is_13 : decode cX11_is 13 = .ok (.iconst 0, 1) := by decide +kernel
theorem dX11_is_14 : decode cX11_is 14 = .ok (.ireturn, 1) := by decide +kernel
theorem dX11_refuse_0 : decode cX11_refuse 0 = .ok (.aload_n 0, 1) := by decide +kernel
theorem dX11_refuse_1 : decode cX11_refuse 1 = .ok (.iload_n 1, 1) := by decide +kernel
theorem dX11_refuse_2 : decode cX11_refuse 2 = .ok (.putfield 99, 3) := by decide +kernel
theorem dX11_refuse_5 : decode cX11_refuse 5 = .ok (.iconst (-1), 1) := by decide +kernel
theorem dX11_refuse_6 : decode cX11_refuse 6 = .ok (.ireturn, 1) := by decide +kernel
theorem dX11_gives_0 : decode cX11_gives 0 = .ok (.aload_n 0, 1) := by decide +kernel
theorem dX11_gives_1 : decode cX11_gives 1 = .ok (.iconst 0, 1) := by decide +kernel
theorem dX11_gives_2 : decode cX11_gives 2 = .ok (.putfield 99, 3) := by decide +kernel
theorem dX11_gives_5 : decode cX11_gives 5 = .ok (.iload_n 1, 1) := by decide +kernel
theorem dX11_gives_6 : decode cX11_gives 6 = .ok (.ireturn, 1) := by decide +kernel
theorem dX11_tellsBy_0 : decode cX11_tellsBy 0 = .ok (.lload_n 1, 1) := by decide +kernel
theorem dX11_tellsBy_1 : decode cX11_tellsBy 1 = .ok (.lstore 5, 2) := by decide +kernel
theorem dX11_tellsBy_3 : decode cX11_tellsBy 3 = .ok (.lload_n 3, 1) := by decide +kernel
theorem dX11_tellsBy_4 : decode cX11_tellsBy 4 = .ok (.lstore 7, 2) := by decide +kernel
theorem dX11_tellsBy_6 : decode cX11_tellsBy 6 = .ok (.lload 7, 2) := by decide +kernel
theorem dX11_tellsBy_8 : decode cX11_tellsBy 8 = .ok (.lconst 0, 1) := by decide +kernel
theorem dX11_tellsBy_9 : decode cX11_tellsBy 9 = .ok (.lcmp, 1) := by decide +kernel
theorem dX11_tellsBy_10 : decode cX11_tellsBy 10 = .ok (.ifCond .eq 21, 3) := by decide +kernel
theorem dX11_tellsBy_13 : decode cX11_tellsBy 13 = .ok (.lload 5, 2) := by decide +kernel
theorem dX11_tellsBy_15 : decode cX11_tellsBy 15 = .ok (.lload 7, 2) := by decide +kernel
theorem dX11_tellsBy_17 : decode cX11_tellsBy 17 = .ok (.lrem, 1) := by decide +kernel
theorem dX11_tellsBy_18 : decode cX11_tellsBy 18 = .ok (.lstore 9, 2) := by decide +kernel
theorem dX11_tellsBy_20 : decode cX11_tellsBy 20 = .ok (.lload 7, 2) := by decide +kernel
theorem dX11_tellsBy_22 : decode cX11_tellsBy 22 = .ok (.lstore 5, 2) := by decide +kernel
theorem dX11_tellsBy_24 : decode cX11_tellsBy 24 = .ok (.lload 9, 2) := by decide +kernel
theorem dX11_tellsBy_26 : decode cX11_tellsBy 26 = .ok (.lstore 7, 2) := by decide +kernel
theorem dX11_tellsBy_28 : decode cX11_tellsBy 28 = .ok (.goto (-22), 3) := by decide +kernel
theorem dX11_tellsBy_31 : decode cX11_tellsBy 31 = .ok (.aload_n 0, 1) := by decide +kernel
theorem dX11_tellsBy_32 : decode cX11_tellsBy 32 = .ok (.lload_n 1, 1) := by decide +kernel
theorem dX11_tellsBy_33 : decode cX11_tellsBy 33 = .ok (.lload 5, 2) := by decide +kernel
theorem dX11_tellsBy_35 : decode cX11_tellsBy 35 = .ok (.ldiv, 1) := by decide +kernel
theorem dX11_tellsBy_36 : decode cX11_tellsBy 36 = .ok (.putfield 102, 3) := by decide +kernel
theorem dX11_tellsBy_39 : decode cX11_tellsBy 39 = .ok (.aload_n 0, 1) := by decide +kernel
theorem dX11_tellsBy_40 : decode cX11_tellsBy 40 = .ok (.lload_n 3, 1) := by decide +kernel
theorem dX11_tellsBy_41 : decode cX11_tellsBy 41 = .ok (.lload 5, 2) := by decide +kernel
theorem dX11_tellsBy_43 : decode cX11_tellsBy 43 = .ok (.ldiv, 1) := by decide +kernel
theorem dX11_tellsBy_44 : decode cX11_tellsBy 44 = .ok (.putfield 13, 3) := by decide +kernel
theorem dX11_tellsBy_47 : decode cX11_tellsBy 47 = .ok (.aload_n 0, 1) := by decide +kernel
theorem dX11_tellsBy_48 : decode cX11_tellsBy 48 = .ok (.iconst 0, 1) := by decide +kernel
theorem dX11_tellsBy_49 : decode cX11_tellsBy 49 = .ok (.invokevirtual 105, 3) := by decide +kernel
theorem dX11_tellsBy_52 : decode cX11_tellsBy 52 = .ok (.ireturn, 1) := by decide +kernel
theorem dX11_isTray_0 : decode cX11_isTray 0 = .ok (.iload_n 0, 1) := by decide +kernel
theorem dX11_isTray_1 : decode cX11_isTray 1 = .ok (.ifCond .lt 12, 3) := by decide +kernel
theorem dX11_isTray_4 : decode cX11_isTray 4 = .ok (.iload_n 0, 1) := by decide +kernel
theorem dX11_isTray_5 : decode cX11_isTray 5 = .ok (.iconst 4, 1) := by decide +kernel
theorem dX11_isTray_6 : decode cX11_isTray 6 = .ok (.if_icmp .ge 7, 3) := by decide +kernel
theorem dX11_isTray_9 : decode cX11_isTray 9 = .ok (.iconst 1, 1) := by decide +kernel
theorem dX11_isTray_10 : decode cX11_isTray 10 = .ok (.goto 4, 3) := by decide +kernel
theorem dX11_isTray_13 : decode cX11_isTray 13 = .ok (.iconst 0, 1) := by decide +kernel
theorem dX11_isTray_14 : decode cX11_isTray 14 = .ok (.ireturn, 1) := by decide +kernel
theorem dX11_cut_0 : decode cX11_cut 0 = .ok (.iload_n 2, 1) := by decide +kernel
theorem dX11_cut_1 : decode cX11_cut 1 = .ok (.ifCond .ne 10, 3) := by decide +kernel
theorem dX11_cut_4 : decode cX11_cut 4 = .ok (.lload_n 0, 1) := by decide +kernel
theorem dX11_cut_5 : decode cX11_cut 5 = .ok (.l2i, 1) := by decide +kernel
theorem dX11_cut_6 : decode cX11_cut 6 = .ok (.i2b, 1) := by decide +kernel
theorem dX11_cut_7 : decode cX11_cut 7 = .ok (.i2l, 1) := by decide +kernel
theorem dX11_cut_8 : decode cX11_cut 8 = .ok (.goto 27, 3) := by decide +kernel
theorem dX11_cut_11 : decode cX11_cut 11 = .ok (.iload_n 2, 1) := by decide +kernel
theorem dX11_cut_12 : decode cX11_cut 12 = .ok (.iconst 1, 1) := by decide +kernel
theorem dX11_cut_13 : decode cX11_cut 13 = .ok (.if_icmp .ne 10, 3) := by decide +kernel
theorem dX11_cut_16 : decode cX11_cut 16 = .ok (.lload_n 0, 1) := by decide +kernel
theorem dX11_cut_17 : decode cX11_cut 17 = .ok (.l2i, 1) := by decide +kernel
theorem dX11_cut_18 : decode cX11_cut 18 = .ok (.i2s, 1) := by decide +kernel
theorem dX11_cut_19 : decode cX11_cut 19 = .ok (.i2l, 1) := by decide +kernel
theorem dX11_cut_20 : decode cX11_cut 20 = .ok (.goto 15, 3) := by decide +kernel
theorem dX11_cut_23 : decode cX11_cut 23 = .ok (.iload_n 2, 1) := by decide +kernel
theorem dX11_cut_24 : decode cX11_cut 24 = .ok (.iconst 2, 1) := by decide +kernel
theorem dX11_cut_25 : decode cX11_cut 25 = .ok (.if_icmp .ne 9, 3) := by decide +kernel
theorem dX11_cut_28 : decode cX11_cut 28 = .ok (.lload_n 0, 1) := by decide +kernel
theorem dX11_cut_29 : decode cX11_cut 29 = .ok (.l2i, 1) := by decide +kernel
theorem dX11_cut_30 : decode cX11_cut 30 = .ok (.i2l, 1) := by decide +kernel
theorem dX11_cut_31 : decode cX11_cut 31 = .ok (.goto 4, 3) := by decide +kernel
theorem dX11_cut_34 : decode cX11_cut 34 = .ok (.lload_n 0, 1) := by decide +kernel
theorem dX11_cut_35 : decode cX11_cut 35 = .ok (.lreturn, 1) := by decide +kernel
theorem dX11_tray_0 : decode cX11_tray 0 = .ok (.iload_n 1, 1) := by decide +kernel
theorem dX11_tray_1 : decode cX11_tray 1 = .ok (.invokestatic 109, 3) := by decide +kernel
theorem dX11_tray_4 : decode cX11_tray 4 = .ok (.ifCond .eq 22, 3) := by decide +kernel
theorem dX11_tray_7 : decode cX11_tray 7 = .ok (.iload_n 2, 1) := by decide +kernel
theorem dX11_tray_8 : decode cX11_tray 8 = .ok (.ifCond .lt 18, 3) := by decide +kernel
theorem dX11_tray_11 : decode cX11_tray 11 = .ok (.iload_n 2, 1) := by decide +kernel
theorem dX11_tray_12 : decode cX11_tray 12 = .ok (.iconst 3, 1) := by decide +kernel
theorem dX11_tray_13 : decode cX11_tray 13 = .ok (.if_icmp .gt 13, 3) := by decide +kernel
theorem dX11_tray_16 : decode cX11_tray 16 = .ok (.iload_n 3, 1) := by decide +kernel
theorem dX11_tray_17 : decode cX11_tray 17 = .ok (.ifCond .lt 9, 3) := by decide +kernel
theorem dX11_tray_20 : decode cX11_tray 20 = .ok (.iload_n 3, 1) := by decide +kernel
theorem dX11_tray_21 : decode cX11_tray 21 = .ok (.bipush 60, 2) := by decide +kernel
theorem dX11_tray_23 : decode cX11_tray 23 = .ok (.if_icmp .le 9, 3) := by decide +kernel
theorem dX11_tray_26 : decode cX11_tray 26 = .ok (.aload_n 0, 1) := by decide +kernel
theorem dX11_tray_27 : decode cX11_tray 27 = .ok (.iconst 1, 1) := by decide +kernel
theorem dX11_tray_28 : decode cX11_tray 28 = .ok (.invokevirtual 105, 3) := by decide +kernel
theorem dX11_tray_31 : decode cX11_tray 31 = .ok (.ireturn, 1) := by decide +kernel
theorem dX11_tray_32 : decode cX11_tray 32 = .ok (.aload_n 0, 1) := by decide +kernel
theorem dX11_tray_33 : decode cX11_tray 33 = .ok (.getfield 17, 3) := by decide +kernel
theorem dX11_tray_36 : decode cX11_tray 36 = .ok (.iload_n 1, 1) := by decide +kernel
theorem dX11_tray_37 : decode cX11_tray 37 = .ok (.iload_n 2, 1) := by decide +kernel
theorem dX11_tray_38 : decode cX11_tray 38 = .ok (.iastore, 1) := by decide +kernel
theorem dX11_tray_39 : decode cX11_tray 39 = .ok (.aload_n 0, 1) := by decide +kernel
theorem dX11_tray_40 : decode cX11_tray 40 = .ok (.getfield 20, 3) := by decide +kernel
theorem dX11_tray_43 : decode cX11_tray 43 = .ok (.iload_n 1, 1) := by decide +kernel
theorem dX11_tray_44 : decode cX11_tray 44 = .ok (.iload_n 3, 1) := by decide +kernel
theorem dX11_tray_45 : decode cX11_tray 45 = .ok (.iastore, 1) := by decide +kernel
theorem dX11_tray_46 : decode cX11_tray 46 = .ok (.iconst 0, 1) := by decide +kernel
theorem dX11_tray_47 : decode cX11_tray 47 = .ok (.istore 4, 2) := by decide +kernel
theorem dX11_tray_49 : decode cX11_tray 49 = .ok (.iload 4, 2) := by decide +kernel
theorem dX11_tray_51 : decode cX11_tray 51 = .ok (.iload_n 3, 1) := by decide +kernel
theorem dX11_tray_52 : decode cX11_tray 52 = .ok (.if_icmp .ge 22, 3) := by decide +kernel
theorem dX11_tray_55 : decode cX11_tray 55 = .ok (.aload_n 0, 1) := by decide +kernel
theorem dX11_tray_56 : decode cX11_tray 56 = .ok (.getfield 23, 3) := by decide +kernel
theorem dX11_tray_59 : decode cX11_tray 59 = .ok (.bipush 60, 2) := by decide +kernel
theorem dX11_tray_61 : decode cX11_tray 61 = .ok (.iload_n 1, 1) := by decide +kernel
theorem dX11_tray_62 : decode cX11_tray 62 = .ok (.imul, 1) := by decide +kernel
theorem dX11_tray_63 : decode cX11_tray 63 = .ok (.iload 4, 2) := by decide +kernel
theorem dX11_tray_65 : decode cX11_tray 65 = .ok (.iadd, 1) := by decide +kernel
theorem dX11_tray_66 : decode cX11_tray 66 = .ok (.lconst 0, 1) := by decide +kernel
theorem dX11_tray_67 : decode cX11_tray 67 = .ok (.lastore, 1) := by decide +kernel
theorem dX11_tray_68 : decode cX11_tray 68 = .ok (.iinc 4 1, 3) := by decide +kernel
theorem dX11_tray_71 : decode cX11_tray 71 = .ok (.goto (-22), 3) := by decide +kernel
theorem dX11_tray_74 : decode cX11_tray 74 = .ok (.aload_n 0, 1) := by decide +kernel
theorem dX11_tray_75 : decode cX11_tray 75 = .ok (.iconst 0, 1) := by decide +kernel
theorem dX11_tray_76 : decode cX11_tray 76 = .ok (.invokevirtual 105, 3) := by decide +kernel
theorem dX11_tray_79 : decode cX11_tray 79 = .ok (.ireturn, 1) := by decide +kernel
theorem dX11_wrongPlace_0 : decode cX11_wrongPlace 0 = .ok (.iload_n 1, 1) := by decide +kernel
theorem dX11_wrongPlace_1 : decode cX11_wrongPlace 1 = .ok (.invokestatic 109, 3) := by decide +kernel
theorem dX11_wrongPlace_4 : decode cX11_wrongPlace 4 = .ok (.ifCond .ne 7, 3) := by decide +kernel
theorem dX11_wrongPlace_7 : decode cX11_wrongPlace 7 = .ok (.iconst 1, 1) := by decide +kernel
theorem dX11_wrongPlace_8 : decode cX11_wrongPlace 8 = .ok (.goto 36, 3) := by decide +kernel
theorem dX11_wrongPlace_11 : decode cX11_wrongPlace 11 = .ok (.aload_n 0, 1) := by decide +kernel
theorem dX11_wrongPlace_12 : decode cX11_wrongPlace 12 = .ok (.getfield 20, 3) := by decide +kernel
theorem dX11_wrongPlace_15 : decode cX11_wrongPlace 15 = .ok (.iload_n 1, 1) := by decide +kernel
theorem dX11_wrongPlace_16 : decode cX11_wrongPlace 16 = .ok (.iaload, 1) := by decide +kernel
theorem dX11_wrongPlace_17 : decode cX11_wrongPlace 17 = .ok (.iconst (-1), 1) := by decide +kernel
theorem dX11_wrongPlace_18 : decode cX11_wrongPlace 18 = .ok (.if_icmp .ne 7, 3) := by decide +kernel
theorem dX11_wrongPlace_21 : decode cX11_wrongPlace 21 = .ok (.iconst 2, 1) := by decide +kernel
theorem dX11_wrongPlace_22 : decode cX11_wrongPlace 22 = .ok (.goto 22, 3) := by decide +kernel
theorem dX11_wrongPlace_25 : decode cX11_wrongPlace 25 = .ok (.iload_n 2, 1) := by decide +kernel
theorem dX11_wrongPlace_26 : decode cX11_wrongPlace 26 = .ok (.ifCond .lt 13, 3) := by decide +kernel
theorem dX11_wrongPlace_29 : decode cX11_wrongPlace 29 = .ok (.iload_n 2, 1) := by decide +kernel
theorem dX11_wrongPlace_30 : decode cX11_wrongPlace 30 = .ok (.aload_n 0, 1) := by decide +kernel
theorem dX11_wrongPlace_31 : decode cX11_wrongPlace 31 = .ok (.getfield 20, 3) := by decide +kernel
theorem dX11_wrongPlace_34 : decode cX11_wrongPlace 34 = .ok (.iload_n 1, 1) := by decide +kernel
theorem dX11_wrongPlace_35 : decode cX11_wrongPlace 35 = .ok (.iaload, 1) := by decide +kernel
theorem dX11_wrongPlace_36 : decode cX11_wrongPlace 36 = .ok (.if_icmp .lt 7, 3) := by decide +kernel
theorem dX11_wrongPlace_39 : decode cX11_wrongPlace 39 = .ok (.iconst 3, 1) := by decide +kernel
theorem dX11_wrongPlace_40 : decode cX11_wrongPlace 40 = .ok (.goto 4, 3) := by decide +kernel
theorem dX11_wrongPlace_43 : decode cX11_wrongPlace 43 = .ok (.iconst 0, 1) := by decide +kernel
theorem dX11_wrongPlace_44 : decode cX11_wrongPlace 44 = .ok (.ireturn, 1) := by decide +kernel
theorem dX11_write_0 : decode cX11_write 0 = .ok (.aload_n 0, 1) := by decide +kernel
theorem dX11_write_1 : decode cX11_write 1 = .ok (.iload_n 1, 1) := by decide +kernel
theorem dX11_write_2 : decode cX11_write 2 = .ok (.iload_n 2, 1) := by decide +kernel
theorem dX11_write_3 : decode cX11_write 3 = .ok (.invokevirtual 112, 3) := by decide +kernel
theorem dX11_write_6 : decode cX11_write 6 = .ok (.istore 5, 2) := by decide +kernel
theorem dX11_write_8 : decode cX11_write 8 = .ok (.iload 5, 2) := by decide +kernel
theorem dX11_write_10 : decode cX11_write 10 = .ok (.ifCond .ne 24, 3) := by decide +kernel
theorem dX11_write_13 : decode cX11_write 13 = .ok (.aload_n 0, 1) := by decide +kernel
theorem dX11_write_14 : decode cX11_write 14 = .ok (.getfield 23, 3) := by decide +kernel
theorem dX11_write_17 : decode cX11_write 17 = .ok (.bipush 60, 2) := by decide +kernel
theorem dX11_write_19 : decode cX11_write 19 = .ok (.iload_n 1, 1) := by decide +kernel
theorem dX11_write_20 : decode cX11_write 20 = .ok (.imul, 1) := by decide +kernel
theorem dX11_write_21 : decode cX11_write 21 = .ok (.iload_n 2, 1) := by decide +kernel
theorem dX11_write_22 : decode cX11_write 22 = .ok (.iadd, 1) := by decide +kernel
theorem dX11_write_23 : decode cX11_write 23 = .ok (.lload_n 3, 1) := by decide +kernel
theorem dX11_write_24 : decode cX11_write 24 = .ok (.aload_n 0, 1) := by decide +kernel
theorem dX11_write_25 : decode cX11_write 25 = .ok (.getfield 17, 3) := by decide +kernel
theorem dX11_write_28 : decode cX11_write 28 = .ok (.iload_n 1, 1) := by decide +kernel
theorem dX11_write_29 : decode cX11_write 29 = .ok (.iaload, 1) := by decide +kernel
theorem dX11_write_30 : decode cX11_write 30 = .ok (.invokestatic 116, 3) := by decide +kernel
theorem dX11_write_33 : decode cX11_write 33 = .ok (.lastore, 1) := by decide +kernel
theorem dX11_write_34 : decode cX11_write 34 = .ok (.aload_n 0, 1) := by decide +kernel
theorem dX11_write_35 : decode cX11_write 35 = .ok (.iload 5, 2) := by decide +kernel
theorem dX11_write_37 : decode cX11_write 37 = .ok (.invokevirtual 105, 3) := by decide +kernel
theorem dX11_write_40 : decode cX11_write 40 = .ok (.ireturn, 1) := by decide +kernel
theorem dX11_read_0 : decode cX11_read 0 = .ok (.aload_n 0, 1) := by decide +kernel
theorem dX11_read_1 : decode cX11_read 1 = .ok (.aload_n 0, 1) := by decide +kernel
theorem dX11_read_2 : decode cX11_read 2 = .ok (.iload_n 1, 1) := by decide +kernel
theorem dX11_read_3 : decode cX11_read 3 = .ok (.iload_n 2, 1) := by decide +kernel
theorem dX11_read_4 : decode cX11_read 4 = .ok (.invokevirtual 112, 3) := by decide +kernel
theorem dX11_read_7 : decode cX11_read 7 = .ok (.putfield 99, 3) := by decide +kernel
theorem dX11_read_10 : decode cX11_read 10 = .ok (.aload_n 0, 1) := by decide +kernel
theorem dX11_read_11 : decode cX11_read 11 = .ok (.getfield 99, 3) := by decide +kernel
theorem dX11_read_14 : decode cX11_read 14 = .ok (.ifCond .le 9, 3) := by decide +kernel
theorem dX11_read_17 : decode cX11_read 17 = .ok (.ldc2_w 120, 3) := by decide +kernel
theorem dX11_read_20 : decode cX11_read 20 = .ok (.goto 14, 3) := by decide +kernel
theorem dX11_read_23 : decode cX11_read 23 = .ok (.aload_n 0, 1) := by decide +kernel
theorem dX11_read_24 : decode cX11_read 24 = .ok (.getfield 23, 3) := by decide +kernel
theorem dX11_read_27 : decode cX11_read 27 = .ok (.bipush 60, 2) := by decide +kernel
theorem dX11_read_29 : decode cX11_read 29 = .ok (.iload_n 1, 1) := by decide +kernel
theorem dX11_read_30 : decode cX11_read 30 = .ok (.imul, 1) := by decide +kernel
theorem dX11_read_31 : decode cX11_read 31 = .ok (.iload_n 2, 1) := by decide +kernel
theorem dX11_read_32 : decode cX11_read 32 = .ok (.iadd, 1) := by decide +kernel
theorem dX11_read_33 : decode cX11_read 33 = .ok (.laload, 1) := by decide +kernel
theorem dX11_read_34 : decode cX11_read 34 = .ok (.lreturn, 1) := by decide +kernel
theorem dX11_pour_0 : decode cX11_pour 0 = .ok (.iload_n 1, 1) := by decide +kernel
theorem dX11_pour_1 : decode cX11_pour 1 = .ok (.invokestatic 109, 3) := by decide +kernel
theorem dX11_pour_4 : decode cX11_pour 4 = .ok (.ifCond .eq 24, 3) := by decide +kernel
theorem dX11_pour_7 : decode cX11_pour 7 = .ok (.iload_n 3, 1) := by decide +kernel
theorem dX11_pour_8 : decode cX11_pour 8 = .ok (.invokestatic 109, 3) := by decide +kernel
theorem dX11_pour_11 : decode cX11_pour 11 = .ok (.ifCond .eq 17, 3) := by decide +kernel
theorem dX11_pour_14 : decode cX11_pour 14 = .ok (.iload_n 2, 1) := by decide +kernel
theorem dX11_pour_15 : decode cX11_pour 15 = .ok (.ifCond .lt 13, 3) := by decide +kernel
theorem dX11_pour_18 : decode cX11_pour 18 = .ok (.iload 4, 2) := by decide +kernel
theorem dX11_pour_20 : decode cX11_pour 20 = .ok (.ifCond .lt 8, 3) := by decide +kernel
theorem dX11_pour_23 : decode cX11_pour 23 = .ok (.iload 5, 2) := by decide +kernel
theorem dX11_pour_25 : decode cX11_pour 25 = .ok (.ifCond .ge 9, 3) := by decide +kernel
theorem dX11_pour_28 : decode cX11_pour 28 = .ok (.aload_n 0, 1) := by decide +kernel
theorem dX11_pour_29 : decode cX11_pour 29 = .ok (.iconst 1, 1) := by decide +kernel
theorem dX11_pour_30 : decode cX11_pour 30 = .ok (.invokevirtual 105, 3) := by decide +kernel
theorem dX11_pour_33 : decode cX11_pour 33 = .ok (.ireturn, 1) := by decide +kernel
theorem dX11_pour_34 : decode cX11_pour 34 = .ok (.aload_n 0, 1) := by decide +kernel
theorem dX11_pour_35 : decode cX11_pour 35 = .ok (.getfield 20, 3) := by decide +kernel
theorem dX11_pour_38 : decode cX11_pour 38 = .ok (.iload_n 1, 1) := by decide +kernel
theorem dX11_pour_39 : decode cX11_pour 39 = .ok (.iaload, 1) := by decide +kernel
theorem dX11_pour_40 : decode cX11_pour 40 = .ok (.iconst (-1), 1) := by decide +kernel
theorem dX11_pour_41 : decode cX11_pour 41 = .ok (.if_icmp .eq 13, 3) := by decide +kernel
theorem dX11_pour_44 : decode cX11_pour 44 = .ok (.aload_n 0, 1) := by decide +kernel
theorem dX11_pour_45 : decode cX11_pour 45 = .ok (.getfield 20, 3) := by decide +kernel
theorem dX11_pour_48 : decode cX11_pour 48 = .ok (.iload_n 3, 1) := by decide +kernel
theorem dX11_pour_49 : decode cX11_pour 49 = .ok (.iaload, 1) := by decide +kernel
theorem dX11_pour_50 : decode cX11_pour 50 = .ok (.iconst (-1), 1) := by decide +kernel
theorem dX11_pour_51 : decode cX11_pour 51 = .ok (.if_icmp .ne 9, 3) := by decide +kernel
theorem dX11_pour_54 : decode cX11_pour 54 = .ok (.aload_n 0, 1) := by decide +kernel
theorem dX11_pour_55 : decode cX11_pour 55 = .ok (.iconst 2, 1) := by decide +kernel
theorem dX11_pour_56 : decode cX11_pour 56 = .ok (.invokevirtual 105, 3) := by decide +kernel
theorem dX11_pour_59 : decode cX11_pour 59 = .ok (.ireturn, 1) := by decide +kernel
theorem dX11_pour_60 : decode cX11_pour 60 = .ok (.aload_n 0, 1) := by decide +kernel
theorem dX11_pour_61 : decode cX11_pour 61 = .ok (.getfield 17, 3) := by decide +kernel
theorem dX11_pour_64 : decode cX11_pour 64 = .ok (.iload_n 1, 1) := by decide +kernel
theorem dX11_pour_65 : decode cX11_pour 65 = .ok (.iaload, 1) := by decide +kernel
theorem dX11_pour_66 : decode cX11_pour 66 = .ok (.aload_n 0, 1) := by decide +kernel
theorem dX11_pour_67 : decode cX11_pour 67 = .ok (.getfield 17, 3) := by decide +kernel
theorem dX11_pour_70 : decode cX11_pour 70 = .ok (.iload_n 3, 1) := by decide +kernel
theorem dX11_pour_71 : decode cX11_pour 71 = .ok (.iaload, 1) := by decide +kernel
theorem dX11_pour_72 : decode cX11_pour 72 = .ok (.if_icmp .eq 10, 3) := by decide +kernel
theorem dX11_pour_75 : decode cX11_pour 75 = .ok (.aload_n 0, 1) := by decide +kernel
theorem dX11_pour_76 : decode cX11_pour 76 = .ok (.bipush 8, 2) := by decide +kernel
theorem dX11_pour_78 : decode cX11_pour 78 = .ok (.invokevirtual 105, 3) := by decide +kernel
theorem dX11_pour_81 : decode cX11_pour 81 = .ok (.ireturn, 1) := by decide +kernel
theorem dX11_pour_82 : decode cX11_pour 82 = .ok (.iload 5, 2) := by decide +kernel
theorem dX11_pour_84 : decode cX11_pour 84 = .ok (.aload_n 0, 1) := by decide +kernel
theorem dX11_pour_85 : decode cX11_pour 85 = .ok (.getfield 20, 3) := by decide +kernel
theorem dX11_pour_88 : decode cX11_pour 88 = .ok (.iload_n 1, 1) := by decide +kernel
theorem dX11_pour_89 : decode cX11_pour 89 = .ok (.iaload, 1) := by decide +kernel
theorem dX11_pour_90 : decode cX11_pour 90 = .ok (.iload_n 2, 1) := by decide +kernel
theorem dX11_pour_91 : decode cX11_pour 91 = .ok (.isub, 1) := by decide +kernel
theorem dX11_pour_92 : decode cX11_pour 92 = .ok (.if_icmp .gt 17, 3) := by decide +kernel
theorem dX11_pour_95 : decode cX11_pour 95 = .ok (.iload 5, 2) := by decide +kernel
theorem dX11_pour_97 : decode cX11_pour 97 = .ok (.aload_n 0, 1) := by decide +kernel
theorem dX11_pour_98 : decode cX11_pour 98 = .ok (.getfield 20, 3) := by decide +kernel
theorem dX11_pour_101 : decode cX11_pour 101 = .ok (.iload_n 3, 1) := by decide +kernel
theorem dX11_pour_102 : decode cX11_pour 102 = .ok (.iaload, 1) := by decide +kernel
theorem dX11_pour_103 : decode cX11_pour 103 = .ok (.iload 4, 2) := by decide +kernel
theorem dX11_pour_105 : decode cX11_pour 105 = .ok (.isub, 1) := by decide +kernel
theorem dX11_pour_106 : decode cX11_pour 106 = .ok (.if_icmp .le 9, 3) := by decide +kernel
theorem dX11_pour_109 : decode cX11_pour 109 = .ok (.aload_n 0, 1) := by decide +kernel
theorem dX11_pour_110 : decode cX11_pour 110 = .ok (.iconst 3, 1) := by decide +kernel
theorem dX11_pour_111 : decode cX11_pour 111 = .ok (.invokevirtual 105, 3) := by decide +kernel
theorem dX11_pour_114 : decode cX11_pour 114 = .ok (.ireturn, 1) := by decide +kernel
theorem dX11_pour_115 : decode cX11_pour 115 = .ok (.iconst 0, 1) := by decide +kernel
theorem dX11_pour_116 : decode cX11_pour 116 = .ok (.istore 6, 2) := by decide +kernel
theorem dX11_pour_118 : decode cX11_pour 118 = .ok (.iload 6, 2) := by decide +kernel
theorem dX11_pour_120 : decode cX11_pour 120 = .ok (.iload 5, 2) := by decide +kernel
theorem dX11_pour_122 : decode cX11_pour 122 = .ok (.if_icmp .ge 58, 3) := by decide +kernel
theorem dX11_pour_125 : decode cX11_pour 125 = .ok (.iload_n 2, 1) := by decide +kernel
theorem dX11_pour_126 : decode cX11_pour 126 = .ok (.iload 4, 2) := by decide +kernel
theorem dX11_pour_128 : decode cX11_pour 128 = .ok (.if_icmp .ge 13, 3) := by decide +kernel
theorem dX11_pour_131 : decode cX11_pour 131 = .ok (.iload 5, 2) := by decide +kernel
theorem dX11_pour_133 : decode cX11_pour 133 = .ok (.iconst 1, 1) := by decide +kernel
theorem dX11_pour_134 : decode cX11_pour 134 = .ok (.isub, 1) := by decide +kernel
theorem dX11_pour_135 : decode cX11_pour 135 = .ok (.iload 6, 2) := by decide +kernel
theorem dX11_pour_137 : decode cX11_pour 137 = .ok (.isub, 1) := by decide +kernel
theorem dX11_pour_138 : decode cX11_pour 138 = .ok (.goto 5, 3) := by decide +kernel
theorem dX11_pour_141 : decode cX11_pour 141 = .ok (.iload 6, 2) := by decide +kernel
theorem dX11_pour_143 : decode cX11_pour 143 = .ok (.istore 7, 2) := by decide +kernel
theorem dX11_pour_145 : decode cX11_pour 145 = .ok (.aload_n 0, 1) := by decide +kernel
theorem dX11_pour_146 : decode cX11_pour 146 = .ok (.getfield 23, 3) := by decide +kernel
theorem dX11_pour_149 : decode cX11_pour 149 = .ok (.bipush 60, 2) := by decide +kernel
theorem dX11_pour_151 : decode cX11_pour 151 = .ok (.iload_n 3, 1) := by decide +kernel
theorem dX11_pour_152 : decode cX11_pour 152 = .ok (.imul, 1) := by decide +kernel
theorem dX11_pour_153 : decode cX11_pour 153 = .ok (.iload 4, 2) := by decide +kernel
theorem dX11_pour_155 : decode cX11_pour 155 = .ok (.iadd, 1) := by decide +kernel
theorem dX11_pour_156 : decode cX11_pour 156 = .ok (.iload 7, 2) := by decide +kernel
theorem dX11_pour_158 : decode cX11_pour 158 = .ok (.iadd, 1) := by decide +kernel
theorem dX11_pour_159 : decode cX11_pour 159 = .ok (.aload_n 0, 1) := by decide +kernel
theorem dX11_pour_160 : decode cX11_pour 160 = .ok (.getfield 23, 3) := by decide +kernel
theorem dX11_pour_163 : decode cX11_pour 163 = .ok (.bipush 60, 2) := by decide +kernel
theorem dX11_pour_165 : decode cX11_pour 165 = .ok (.iload_n 1, 1) := by decide +kernel
theorem dX11_pour_166 : decode cX11_pour 166 = .ok (.imul, 1) := by decide +kernel
theorem dX11_pour_167 : decode cX11_pour 167 = .ok (.iload_n 2, 1) := by decide +kernel
theorem dX11_pour_168 : decode cX11_pour 168 = .ok (.iadd, 1) := by decide +kernel
theorem dX11_pour_169 : decode cX11_pour 169 = .ok (.iload 7, 2) := by decide +kernel
theorem dX11_pour_171 : decode cX11_pour 171 = .ok (.iadd, 1) := by decide +kernel
theorem dX11_pour_172 : decode cX11_pour 172 = .ok (.laload, 1) := by decide +kernel
theorem dX11_pour_173 : decode cX11_pour 173 = .ok (.lastore, 1) := by decide +kernel
theorem dX11_pour_174 : decode cX11_pour 174 = .ok (.iinc 6 1, 3) := by decide +kernel
theorem dX11_pour_177 : decode cX11_pour 177 = .ok (.goto (-59), 3) := by decide +kernel
theorem dX11_pour_180 : decode cX11_pour 180 = .ok (.aload_n 0, 1) := by decide +kernel
theorem dX11_pour_181 : decode cX11_pour 181 = .ok (.iconst 0, 1) := by decide +kernel
theorem dX11_pour_182 : decode cX11_pour 182 = .ok (.invokevirtual 105, 3) := by decide +kernel
theorem dX11_pour_185 : decode cX11_pour 185 = .ok (.ireturn, 1) := by decide +kernel
theorem dX11_isFrom_0 : decode cX11_isFrom 0 = .ok (.lload_n 0, 1) := by decide +kernel
theorem dX11_isFrom_1 : decode cX11_isFrom 1 = .ok (.lload_n 2, 1) := by decide +kernel
theorem dX11_isFrom_2 : decode cX11_isFrom 2 = .ok (.lcmp, 1) := by decide +kernel
theorem dX11_isFrom_3 : decode cX11_isFrom 3 = .ok (.ifCond .lt 14, 3) := by decide +kernel
theorem dX11_isFrom_6 : decode cX11_isFrom 6 = .ok (.lload_n 0, 1) := by decide +kernel
theorem dX11_isFrom_7 : decode cX11_isFrom 7 = .ok (.lload 4, 2) := by decide +kernel
theorem dX11_isFrom_9 : decode cX11_isFrom 9 = .ok (.lcmp, 1) := by decide +kernel
theorem dX11_isFrom_10 : decode cX11_isFrom 10 = .ok (.ifCond .gt 7, 3) := by decide +kernel
theorem dX11_isFrom_13 : decode cX11_isFrom 13 = .ok (.iconst 1, 1) := by decide +kernel
theorem dX11_isFrom_14 : decode cX11_isFrom 14 = .ok (.goto 4, 3) := by decide +kernel
theorem dX11_isFrom_17 : decode cX11_isFrom 17 = .ok (.iconst 0, 1) := by decide +kernel
theorem dX11_isFrom_18 : decode cX11_isFrom 18 = .ok (.ireturn, 1) := by decide +kernel
theorem dX11_feed_0 : decode cX11_feed 0 = .ok (.aload_n 0, 1) := by decide +kernel
theorem dX11_feed_1 : decode cX11_feed 1 = .ok (.getfield 122, 3) := by decide +kernel
theorem dX11_feed_4 : decode cX11_feed 4 = .ok (.bipush 20, 2) := by decide +kernel
theorem dX11_feed_6 : decode cX11_feed 6 = .ok (.iadd, 1) := by decide +kernel
theorem dX11_feed_7 : decode cX11_feed 7 = .ok (.sipush 900, 3) := by decide +kernel
theorem dX11_feed_10 : decode cX11_feed 10 = .ok (.if_icmp .le 5, 3) := by decide +kernel
theorem dX11_feed_13 : decode cX11_feed 13 = .ok (.iconst (-1), 1) := by decide +kernel
theorem dX11_feed_14 : decode cX11_feed 14 = .ok (.ireturn, 1) := by decide +kernel
theorem dX11_feed_15 : decode cX11_feed 15 = .ok (.aload_n 0, 1) := by decide +kernel
theorem dX11_feed_16 : decode cX11_feed 16 = .ok (.iload_n 1, 1) := by decide +kernel
theorem dX11_feed_17 : decode cX11_feed 17 = .ok (.invokevirtual 125, 3) := by decide +kernel
theorem dX11_feed_20 : decode cX11_feed 20 = .ok (.aload_n 0, 1) := by decide +kernel
theorem dX11_feed_21 : decode cX11_feed 21 = .ok (.iload_n 2, 1) := by decide +kernel
theorem dX11_feed_22 : decode cX11_feed 22 = .ok (.invokevirtual 125, 3) := by decide +kernel
theorem dX11_feed_25 : decode cX11_feed 25 = .ok (.aload_n 0, 1) := by decide +kernel
theorem dX11_feed_26 : decode cX11_feed 26 = .ok (.iload_n 3, 1) := by decide +kernel
theorem dX11_feed_27 : decode cX11_feed 27 = .ok (.invokevirtual 125, 3) := by decide +kernel
theorem dX11_feed_30 : decode cX11_feed 30 = .ok (.aload_n 0, 1) := by decide +kernel
theorem dX11_feed_31 : decode cX11_feed 31 = .ok (.iload 4, 2) := by decide +kernel
theorem dX11_feed_33 : decode cX11_feed 33 = .ok (.invokevirtual 125, 3) := by decide +kernel
theorem dX11_feed_36 : decode cX11_feed 36 = .ok (.aload_n 0, 1) := by decide +kernel
theorem dX11_feed_37 : decode cX11_feed 37 = .ok (.iload 5, 2) := by decide +kernel
theorem dX11_feed_39 : decode cX11_feed 39 = .ok (.invokevirtual 125, 3) := by decide +kernel
theorem dX11_feed_42 : decode cX11_feed 42 = .ok (.aload_n 0, 1) := by decide +kernel
theorem dX11_feed_43 : decode cX11_feed 43 = .ok (.getfield 122, 3) := by decide +kernel
theorem dX11_feed_46 : decode cX11_feed 46 = .ok (.ireturn, 1) := by decide +kernel
theorem dX11_four_0 : decode cX11_four 0 = .ok (.bipush 24, 2) := by decide +kernel
theorem dX11_four_2 : decode cX11_four 2 = .ok (.istore_n 2, 1) := by decide +kernel
theorem dX11_four_3 : decode cX11_four 3 = .ok (.iload_n 2, 1) := by decide +kernel
theorem dX11_four_4 : decode cX11_four 4 = .ok (.ifCond .lt 32, 3) := by decide +kernel
theorem dX11_four_7 : decode cX11_four 7 = .ok (.aload_n 0, 1) := by decide +kernel
theorem dX11_four_8 : decode cX11_four 8 = .ok (.getfield 27, 3) := by decide +kernel
theorem dX11_four_11 : decode cX11_four 11 = .ok (.aload_n 0, 1) := by decide +kernel
theorem dX11_four_12 : decode cX11_four 12 = .ok (.getfield 122, 3) := by decide +kernel
theorem dX11_four_15 : decode cX11_four 15 = .ok (.iload_n 1, 1) := by decide +kernel
theorem dX11_four_16 : decode cX11_four 16 = .ok (.iload_n 2, 1) := by decide +kernel
theorem dX11_four_17 : decode cX11_four 17 = .ok (.ishr, 1) := by decide +kernel
theorem dX11_four_18 : decode cX11_four 18 = .ok (.i2b, 1) := by decide +kernel
theorem dX11_four_19 : decode cX11_four 19 = .ok (.bastore, 1) := by decide +kernel
theorem dX11_four_20 : decode cX11_four 20 = .ok (.aload_n 0, 1) := by decide +kernel
theorem dX11_four_21 : decode cX11_four 21 = .ok (.dup, 1) := by decide +kernel
theorem dX11_four_22 : decode cX11_four 22 = .ok (.getfield 122, 3) := by decide +kernel
theorem dX11_four_25 : decode cX11_four 25 = .ok (.iconst 1, 1) := by decide +kernel
theorem dX11_four_26 : decode cX11_four 26 = .ok (.iadd, 1) := by decide +kernel
theorem dX11_four_27 : decode cX11_four 27 = .ok (.putfield 122, 3) := by decide +kernel
theorem dX11_four_30 : decode cX11_four 30 = .ok (.iinc 2 (-8), 3) := by decide +kernel
theorem dX11_four_33 : decode cX11_four 33 = .ok (.goto (-30), 3) := by decide +kernel
theorem dX11_four_36 : decode cX11_four 36 = .ok (.return_, 1) := by decide +kernel
theorem dX11_byteAt_0 : decode cX11_byteAt 0 = .ok (.iload_n 1, 1) := by decide +kernel
theorem dX11_byteAt_1 : decode cX11_byteAt 1 = .ok (.aload_n 0, 1) := by decide +kernel
theorem dX11_byteAt_2 : decode cX11_byteAt 2 = .ok (.getfield 128, 3) := by decide +kernel
theorem dX11_byteAt_5 : decode cX11_byteAt 5 = .ok (.if_icmp .ge 16, 3) := by decide +kernel
theorem dX11_byteAt_8 : decode cX11_byteAt 8 = .ok (.aload_n 0, 1) := by decide +kernel
theorem dX11_byteAt_9 : decode cX11_byteAt 9 = .ok (.getfield 31, 3) := by decide +kernel
theorem dX11_byteAt_12 : decode cX11_byteAt 12 = .ok (.iload_n 1, 1) := by decide +kernel
theorem dX11_byteAt_13 : decode cX11_byteAt 13 = .ok (.baload, 1) := by decide +kernel
theorem dX11_byteAt_14 : decode cX11_byteAt 14 = .ok (.sipush 255, 3) := by decide +kernel
theorem dX11_byteAt_17 : decode cX11_byteAt 17 = .ok (.iand, 1) := by decide +kernel
theorem dX11_byteAt_18 : decode cX11_byteAt 18 = .ok (.goto 4, 3) := by decide +kernel
theorem dX11_byteAt_21 : decode cX11_byteAt 21 = .ok (.iconst (-1), 1) := by decide +kernel
theorem dX11_byteAt_22 : decode cX11_byteAt 22 = .ok (.ireturn, 1) := by decide +kernel
theorem dX11_isSmall_0 : decode cX11_isSmall 0 = .ok (.iload_n 0, 1) := by decide +kernel
theorem dX11_isSmall_1 : decode cX11_isSmall 1 = .ok (.bipush 97, 2) := by decide +kernel
theorem dX11_isSmall_3 : decode cX11_isSmall 3 = .ok (.if_icmp .lt 13, 3) := by decide +kernel
theorem dX11_isSmall_6 : decode cX11_isSmall 6 = .ok (.iload_n 0, 1) := by decide +kernel
theorem dX11_isSmall_7 : decode cX11_isSmall 7 = .ok (.bipush 122, 2) := by decide +kernel
theorem dX11_isSmall_9 : decode cX11_isSmall 9 = .ok (.if_icmp .gt 7, 3) := by decide +kernel
theorem dX11_isSmall_12 : decode cX11_isSmall 12 = .ok (.iconst 1, 1) := by decide +kernel
theorem dX11_isSmall_13 : decode cX11_isSmall 13 = .ok (.goto 4, 3) := by decide +kernel
theorem dX11_isSmall_16 : decode cX11_isSmall 16 = .ok (.iconst 0, 1) := by decide +kernel
theorem dX11_isSmall_17 : decode cX11_isSmall 17 = .ok (.ireturn, 1) := by decide +kernel
theorem dX11_isDigit_0 : decode cX11_isDigit 0 = .ok (.iload_n 0, 1) := by decide +kernel
theorem dX11_isDigit_1 : decode cX11_isDigit 1 = .ok (.bipush 48, 2) := by decide +kernel
theorem dX11_isDigit_3 : decode cX11_isDigit 3 = .ok (.if_icmp .lt 13, 3) := by decide +kernel
theorem dX11_isDigit_6 : decode cX11_isDigit 6 = .ok (.iload_n 0, 1) := by decide +kernel
theorem dX11_isDigit_7 : decode cX11_isDigit 7 = .ok (.bipush 57, 2) := by decide +kernel
theorem dX11_isDigit_9 : decode cX11_isDigit 9 = .ok (.if_icmp .gt 7, 3) := by decide +kernel
theorem dX11_isDigit_12 : decode cX11_isDigit 12 = .ok (.iconst 1, 1) := by decide +kernel
theorem dX11_isDigit_13 : decode cX11_isDigit 13 = .ok (.goto 4, 3) := by decide +kernel
theorem dX11_isDigit_16 : decode cX11_isDigit 16 = .ok (.iconst 0, 1) := by decide +kernel
theorem dX11_isDigit_17 : decode cX11_isDigit 17 = .ok (.ireturn, 1) := by decide +kernel
theorem dX11_ahead_0 : decode cX11_ahead 0 = .ok (.aload_n 0, 1) := by decide +kernel
theorem dX11_ahead_1 : decode cX11_ahead 1 = .ok (.aload_n 0, 1) := by decide +kernel
theorem dX11_ahead_2 : decode cX11_ahead 2 = .ok (.getfield 131, 3) := by decide +kernel
theorem dX11_ahead_5 : decode cX11_ahead 5 = .ok (.invokevirtual 134, 3) := by decide +kernel
theorem dX11_ahead_8 : decode cX11_ahead 8 = .ok (.bipush 32, 2) := by decide +kernel
theorem dX11_ahead_10 : decode cX11_ahead 10 = .ok (.if_icmp .eq 16, 3) := by decide +kernel
theorem dX11_ahead_13 : decode cX11_ahead 13 = .ok (.aload_n 0, 1) := by decide +kernel
theorem dX11_ahead_14 : decode cX11_ahead 14 = .ok (.aload_n 0, 1) := by decide +kernel
theorem dX11_ahead_15 : decode cX11_ahead 15 = .ok (.getfield 131, 3) := by decide +kernel
theorem dX11_ahead_18 : decode cX11_ahead 18 = .ok (.invokevirtual 134, 3) := by decide +kernel
theorem dX11_ahead_21 : decode cX11_ahead 21 = .ok (.bipush 10, 2) := by decide +kernel
theorem dX11_ahead_23 : decode cX11_ahead 23 = .ok (.if_icmp .ne 16, 3) := by decide +kernel
theorem dX11_ahead_26 : decode cX11_ahead 26 = .ok (.aload_n 0, 1) := by decide +kernel
theorem dX11_ahead_27 : decode cX11_ahead 27 = .ok (.dup, 1) := by decide +kernel
theorem dX11_ahead_28 : decode cX11_ahead 28 = .ok (.getfield 131, 3) := by decide +kernel
theorem dX11_ahead_31 : decode cX11_ahead 31 = .ok (.iconst 1, 1) := by decide +kernel
theorem dX11_ahead_32 : decode cX11_ahead 32 = .ok (.iadd, 1) := by decide +kernel
theorem dX11_ahead_33 : decode cX11_ahead 33 = .ok (.putfield 131, 3) := by decide +kernel
theorem dX11_ahead_36 : decode cX11_ahead 36 = .ok (.goto (-36), 3) := by decide +kernel
theorem dX11_ahead_39 : decode cX11_ahead 39 = .ok (.aload_n 0, 1) := by decide +kernel
theorem dX11_ahead_40 : decode cX11_ahead 40 = .ok (.aload_n 0, 1) := by decide +kernel
theorem dX11_ahead_41 : decode cX11_ahead 41 = .ok (.getfield 131, 3) := by decide +kernel
theorem dX11_ahead_44 : decode cX11_ahead 44 = .ok (.putfield 138, 3) := by decide +kernel
theorem dX11_ahead_47 : decode cX11_ahead 47 = .ok (.aload_n 0, 1) := by decide +kernel
theorem dX11_ahead_48 : decode cX11_ahead 48 = .ok (.aload_n 0, 1) := by decide +kernel
theorem dX11_ahead_49 : decode cX11_ahead 49 = .ok (.getfield 131, 3) := by decide +kernel
theorem dX11_ahead_52 : decode cX11_ahead 52 = .ok (.invokevirtual 134, 3) := by decide +kernel
theorem dX11_ahead_55 : decode cX11_ahead 55 = .ok (.istore_n 1, 1) := by decide +kernel
theorem dX11_ahead_56 : decode cX11_ahead 56 = .ok (.aload_n 0, 1) := by decide +kernel
theorem dX11_ahead_57 : decode cX11_ahead 57 = .ok (.iload_n 1, 1) := by decide +kernel
theorem dX11_ahead_58 : decode cX11_ahead 58 = .ok (.putfield 141, 3) := by decide +kernel
theorem dX11_ahead_61 : decode cX11_ahead 61 = .ok (.iload_n 1, 1) := by decide +kernel
theorem dX11_ahead_62 : decode cX11_ahead 62 = .ok (.iconst (-1), 1) := by decide +kernel
theorem dX11_ahead_63 : decode cX11_ahead 63 = .ok (.if_icmp .ne 11, 3) := by decide +kernel
theorem dX11_ahead_66 : decode cX11_ahead 66 = .ok (.aload_n 0, 1) := by decide +kernel
theorem dX11_ahead_67 : decode cX11_ahead 67 = .ok (.iconst 0, 1) := by decide +kernel
theorem dX11_ahead_68 : decode cX11_ahead 68 = .ok (.putfield 144, 3) := by decide +kernel
theorem dX11_ahead_71 : decode cX11_ahead 71 = .ok (.goto 162, 3) := by decide +kernel
theorem dX11_ahead_74 : decode cX11_ahead 74 = .ok (.iload_n 1, 1) := by decide +kernel
theorem dX11_ahead_75 : decode cX11_ahead 75 = .ok (.invokestatic 147, 3) := by decide +kernel
theorem dX11_ahead_78 : decode cX11_ahead 78 = .ok (.ifCond .eq 38, 3) := by decide +kernel
theorem dX11_ahead_81 : decode cX11_ahead 81 = .ok (.aload_n 0, 1) := by decide +kernel
theorem dX11_ahead_82 : decode cX11_ahead 82 = .ok (.aload_n 0, 1) := by decide +kernel
theorem dX11_ahead_83 : decode cX11_ahead 83 = .ok (.getfield 131, 3) := by decide +kernel
theorem dX11_ahead_86 : decode cX11_ahead 86 = .ok (.invokevirtual 134, 3) := by decide +kernel
theorem dX11_ahead_89 : decode cX11_ahead 89 = .ok (.invokestatic 147, 3) := by decide +kernel
theorem dX11_ahead_92 : decode cX11_ahead 92 = .ok (.ifCond .eq 16, 3) := by decide +kernel
theorem dX11_ahead_95 : decode cX11_ahead 95 = .ok (.aload_n 0, 1) := by decide +kernel
theorem dX11_ahead_96 : decode cX11_ahead 96 = .ok (.dup, 1) := by decide +kernel
theorem dX11_ahead_97 : decode cX11_ahead 97 = .ok (.getfield 131, 3) := by decide +kernel
theorem dX11_ahead_100 : decode cX11_ahead 100 = .ok (.iconst 1, 1) := by decide +kernel
theorem dX11_ahead_101 : decode cX11_ahead 101 = .ok (.iadd, 1) := by decide +kernel
theorem dX11_ahead_102 : decode cX11_ahead 102 = .ok (.putfield 131, 3) := by decide +kernel
theorem dX11_ahead_105 : decode cX11_ahead 105 = .ok (.goto (-24), 3) := by decide +kernel
theorem dX11_ahead_108 : decode cX11_ahead 108 = .ok (.aload_n 0, 1) := by decide +kernel
theorem dX11_ahead_109 : decode cX11_ahead 109 = .ok (.iconst 2, 1) := by decide +kernel
theorem dX11_ahead_110 : decode cX11_ahead 110 = .ok (.putfield 144, 3) := by decide +kernel
theorem dX11_ahead_113 : decode cX11_ahead 113 = .ok (.goto 120, 3) := by decide +kernel
theorem dX11_ahead_116 : decode cX11_ahead 116 = .ok (.iload_n 1, 1) := by decide +kernel
theorem dX11_ahead_117 : decode cX11_ahead 117 = .ok (.invokestatic 150, 3) := by decide +kernel
theorem dX11_ahead_120 : decode cX11_ahead 120 = .ok (.ifCond .eq 88, 3) := by decide +kernel
theorem dX11_ahead_123 : decode cX11_ahead 123 = .ok (.aload_n 0, 1) := by decide +kernel
theorem dX11_ahead_124 : decode cX11_ahead 124 = .ok (.iconst 0, 1) := by decide +kernel
theorem dX11_ahead_125 : decode cX11_ahead 125 = .ok (.putfield 141, 3) := by decide +kernel
theorem dX11_ahead_128 : decode cX11_ahead 128 = .ok (.aload_n 0, 1) := by decide +kernel
theorem dX11_ahead_129 : decode cX11_ahead 129 = .ok (.aload_n 0, 1) := by decide +kernel
theorem dX11_ahead_130 : decode cX11_ahead 130 = .ok (.getfield 131, 3) := by decide +kernel
theorem dX11_ahead_133 : decode cX11_ahead 133 = .ok (.invokevirtual 134, 3) := by decide +kernel
theorem dX11_ahead_136 : decode cX11_ahead 136 = .ok (.invokestatic 150, 3) := by decide +kernel
theorem dX11_ahead_139 : decode cX11_ahead 139 = .ok (.ifCond .eq 44, 3) := by decide +kernel
theorem dX11_ahead_142 : decode cX11_ahead 142 = .ok (.aload_n 0, 1) := by decide +kernel
theorem dX11_ahead_143 : decode cX11_ahead 143 = .ok (.ldc 153, 2) := by decide +kernel
theorem dX11_ahead_145 : decode cX11_ahead 145 = .ok (.bipush 10, 2) := by decide +kernel
theorem dX11_ahead_147 : decode cX11_ahead 147 = .ok (.aload_n 0, 1) := by decide +kernel
theorem dX11_ahead_148 : decode cX11_ahead 148 = .ok (.getfield 141, 3) := by decide +kernel
theorem dX11_ahead_151 : decode cX11_ahead 151 = .ok (.imul, 1) := by decide +kernel
theorem dX11_ahead_152 : decode cX11_ahead 152 = .ok (.aload_n 0, 1) := by decide +kernel
theorem dX11_ahead_153 : decode cX11_ahead 153 = .ok (.aload_n 0, 1) := by decide +kernel
theorem dX11_ahead_154 : decode cX11_ahead 154 = .ok (.getfield 131, 3) := by decide +kernel
theorem dX11_ahead_157 : decode cX11_ahead 157 = .ok (.invokevirtual 134, 3) := by decide +kernel
theorem dX11_ahead_160 : decode cX11_ahead 160 = .ok (.iadd, 1) := by decide +kernel
theorem dX11_ahead_161 : decode cX11_ahead 161 = .ok (.bipush 48, 2) := by decide +kernel
theorem dX11_ahead_163 : decode cX11_ahead 163 = .ok (.isub, 1) := by decide +kernel
theorem dX11_ahead_164 : decode cX11_ahead 164 = .ok (.invokestatic 154, 3) := by decide +kernel
theorem dX11_ahead_167 : decode cX11_ahead 167 = .ok (.putfield 141, 3) := by decide +kernel
theorem dX11_ahead_170 : decode cX11_ahead 170 = .ok (.aload_n 0, 1) := by decide +kernel
theorem dX11_ahead_171 : decode cX11_ahead 171 = .ok (.dup, 1) := by decide +kernel
theorem dX11_ahead_172 : decode cX11_ahead 172 = .ok (.getfield 131, 3) := by decide +kernel
theorem dX11_ahead_175 : decode cX11_ahead 175 = .ok (.iconst 1, 1) := by decide +kernel
theorem dX11_ahead_176 : decode cX11_ahead 176 = .ok (.iadd, 1) := by decide +kernel
theorem dX11_ahead_177 : decode cX11_ahead 177 = .ok (.putfield 131, 3) := by decide +kernel
theorem dX11_ahead_180 : decode cX11_ahead 180 = .ok (.goto (-52), 3) := by decide +kernel
theorem dX11_ahead_183 : decode cX11_ahead 183 = .ok (.aload_n 0, 1) := by decide +kernel
theorem dX11_ahead_184 : decode cX11_ahead 184 = .ok (.aload_n 0, 1) := by decide +kernel
theorem dX11_ahead_185 : decode cX11_ahead 185 = .ok (.getfield 131, 3) := by decide +kernel
theorem dX11_ahead_188 : decode cX11_ahead 188 = .ok (.aload_n 0, 1) := by decide +kernel
theorem dX11_ahead_189 : decode cX11_ahead 189 = .ok (.getfield 138, 3) := by decide +kernel
theorem dX11_ahead_192 : decode cX11_ahead 192 = .ok (.isub, 1) := by decide +kernel
theorem dX11_ahead_193 : decode cX11_ahead 193 = .ok (.iconst 4, 1) := by decide +kernel
theorem dX11_ahead_194 : decode cX11_ahead 194 = .ok (.if_icmp .le 7, 3) := by decide +kernel
theorem dX11_ahead_197 : decode cX11_ahead 197 = .ok (.iconst 1, 1) := by decide +kernel
theorem dX11_ahead_198 : decode cX11_ahead 198 = .ok (.goto 4, 3) := by decide +kernel
theorem dX11_ahead_201 : decode cX11_ahead 201 = .ok (.iconst 3, 1) := by decide +kernel
theorem dX11_ahead_202 : decode cX11_ahead 202 = .ok (.putfield 144, 3) := by decide +kernel
theorem dX11_ahead_205 : decode cX11_ahead 205 = .ok (.goto 28, 3) := by decide +kernel
theorem dX11_ahead_208 : decode cX11_ahead 208 = .ok (.aload_n 0, 1) := by decide +kernel
theorem dX11_ahead_209 : decode cX11_ahead 209 = .ok (.dup, 1) := by decide +kernel
theorem dX11_ahead_210 : decode cX11_ahead 210 = .ok (.getfield 131, 3) := by decide +kernel
theorem dX11_ahead_213 : decode cX11_ahead 213 = .ok (.iconst 1, 1) := by decide +kernel
theorem dX11_ahead_214 : decode cX11_ahead 214 = .ok (.iadd, 1) := by decide +kernel
theorem dX11_ahead_215 : decode cX11_ahead 215 = .ok (.putfield 131, 3) := by decide +kernel
theorem dX11_ahead_218 : decode cX11_ahead 218 = .ok (.aload_n 0, 1) := by decide +kernel
theorem dX11_ahead_219 : decode cX11_ahead 219 = .ok (.iload_n 1, 1) := by decide +kernel
theorem dX11_ahead_220 : decode cX11_ahead 220 = .ok (.bipush 59, 2) := by decide +kernel
theorem dX11_ahead_222 : decode cX11_ahead 222 = .ok (.if_icmp .ne 7, 3) := by decide +kernel
theorem dX11_ahead_225 : decode cX11_ahead 225 = .ok (.iconst 4, 1) := by decide +kernel
theorem dX11_ahead_226 : decode cX11_ahead 226 = .ok (.goto 4, 3) := by decide +kernel
theorem dX11_ahead_229 : decode cX11_ahead 229 = .ok (.iconst 1, 1) := by decide +kernel
theorem dX11_ahead_230 : decode cX11_ahead 230 = .ok (.putfield 144, 3) := by decide +kernel
theorem dX11_ahead_233 : decode cX11_ahead 233 = .ok (.return_, 1) := by decide +kernel
theorem dX11_isSign_0 : decode cX11_isSign 0 = .ok (.aload_n 0, 1) := by decide +kernel
theorem dX11_isSign_1 : decode cX11_isSign 1 = .ok (.getfield 144, 3) := by decide +kernel
theorem dX11_isSign_4 : decode cX11_isSign 4 = .ok (.iconst 4, 1) := by decide +kernel
theorem dX11_isSign_5 : decode cX11_isSign 5 = .ok (.if_icmp .ne 15, 3) := by decide +kernel
theorem dX11_isSign_8 : decode cX11_isSign 8 = .ok (.aload_n 0, 1) := by decide +kernel
theorem dX11_isSign_9 : decode cX11_isSign 9 = .ok (.getfield 141, 3) := by decide +kernel
theorem dX11_isSign_12 : decode cX11_isSign 12 = .ok (.iload_n 1, 1) := by decide +kernel
theorem dX11_isSign_13 : decode cX11_isSign 13 = .ok (.if_icmp .ne 7, 3) := by decide +kernel
theorem dX11_isSign_16 : decode cX11_isSign 16 = .ok (.iconst 1, 1) := by decide +kernel
theorem dX11_isSign_17 : decode cX11_isSign 17 = .ok (.goto 4, 3) := by decide +kernel
theorem dX11_isSign_20 : decode cX11_isSign 20 = .ok (.iconst 0, 1) := by decide +kernel
theorem dX11_isSign_21 : decode cX11_isSign 21 = .ok (.ireturn, 1) := by decide +kernel
theorem dX11_inWords_0 : decode cX11_inWords 0 = .ok (.aload_n 0, 1) := by decide +kernel
theorem dX11_inWords_1 : decode cX11_inWords 1 = .ok (.getfield 144, 3) := by decide +kernel
theorem dX11_inWords_4 : decode cX11_inWords 4 = .ok (.iconst 2, 1) := by decide +kernel
theorem dX11_inWords_5 : decode cX11_inWords 5 = .ok (.if_icmp .eq 5, 3) := by decide +kernel
theorem dX11_inWords_8 : decode cX11_inWords 8 = .ok (.iconst (-1), 1) := by decide +kernel
theorem dX11_inWords_9 : decode cX11_inWords 9 = .ok (.ireturn, 1) := by decide +kernel
theorem dX11_inWords_10 : decode cX11_inWords 10 = .ok (.iconst 0, 1) := by decide +kernel
theorem dX11_inWords_11 : decode cX11_inWords 11 = .ok (.istore_n 2, 1) := by decide +kernel
theorem dX11_inWords_12 : decode cX11_inWords 12 = .ok (.iconst 1, 1) := by decide +kernel
theorem dX11_inWords_13 : decode cX11_inWords 13 = .ok (.istore_n 3, 1) := by decide +kernel
theorem dX11_inWords_14 : decode cX11_inWords 14 = .ok (.iload_n 3, 1) := by decide +kernel
theorem dX11_inWords_15 : decode cX11_inWords 15 = .ok (.aload_n 1, 1) := by decide +kernel
theorem dX11_inWords_16 : decode cX11_inWords 16 = .ok (.invokevirtual 159, 3) := by decide +kernel
theorem dX11_inWords_19 : decode cX11_inWords 19 = .ok (.if_icmp .ge 114, 3) := by decide +kernel
theorem dX11_inWords_22 : decode cX11_inWords 22 = .ok (.iload_n 3, 1) := by decide +kernel
theorem dX11_inWords_23 : decode cX11_inWords 23 = .ok (.istore 4, 2) := by decide +kernel
theorem dX11_inWords_25 : decode cX11_inWords 25 = .ok (.aload_n 1, 1) := by decide +kernel
theorem dX11_inWords_26 : decode cX11_inWords 26 = .ok (.iload 4, 2) := by decide +kernel
theorem dX11_inWords_28 : decode cX11_inWords 28 = .ok (.invokevirtual 165, 3) := by decide +kernel
theorem dX11_inWords_31 : decode cX11_inWords 31 = .ok (.bipush 32, 2) := by decide +kernel
theorem dX11_inWords_33 : decode cX11_inWords 33 = .ok (.if_icmp .eq 9, 3) := by decide +kernel
theorem dX11_inWords_36 : decode cX11_inWords 36 = .ok (.iinc 4 1, 3) := by decide +kernel
theorem dX11_inWords_39 : decode cX11_inWords 39 = .ok (.goto (-14), 3) := by decide +kernel
theorem dX11_inWords_42 : decode cX11_inWords 42 = .ok (.iload 4, 2) := by decide +kernel
theorem dX11_inWords_44 : decode cX11_inWords 44 = .ok (.iload_n 3, 1) := by decide +kernel
theorem dX11_inWords_45 : decode cX11_inWords 45 = .ok (.isub, 1) := by decide +kernel
theorem dX11_inWords_46 : decode cX11_inWords 46 = .ok (.aload_n 0, 1) := by decide +kernel
theorem dX11_inWords_47 : decode cX11_inWords 47 = .ok (.getfield 131, 3) := by decide +kernel
theorem dX11_inWords_50 : decode cX11_inWords 50 = .ok (.aload_n 0, 1) := by decide +kernel
theorem dX11_inWords_51 : decode cX11_inWords 51 = .ok (.getfield 138, 3) := by decide +kernel
theorem dX11_inWords_54 : decode cX11_inWords 54 = .ok (.isub, 1) := by decide +kernel
theorem dX11_inWords_55 : decode cX11_inWords 55 = .ok (.if_icmp .ne 7, 3) := by decide +kernel
theorem dX11_inWords_58 : decode cX11_inWords 58 = .ok (.iconst 1, 1) := by decide +kernel
theorem dX11_inWords_59 : decode cX11_inWords 59 = .ok (.goto 4, 3) := by decide +kernel
theorem dX11_inWords_62 : decode cX11_inWords 62 = .ok (.iconst 0, 1) := by decide +kernel
theorem dX11_inWords_63 : decode cX11_inWords 63 = .ok (.istore 5, 2) := by decide +kernel
theorem dX11_inWords_65 : decode cX11_inWords 65 = .ok (.iload_n 3, 1) := by decide +kernel
theorem dX11_inWords_66 : decode cX11_inWords 66 = .ok (.istore 6, 2) := by decide +kernel
theorem dX11_inWords_68 : decode cX11_inWords 68 = .ok (.iload 6, 2) := by decide +kernel
theorem dX11_inWords_70 : decode cX11_inWords 70 = .ok (.iload 4, 2) := by decide +kernel
theorem dX11_inWords_72 : decode cX11_inWords 72 = .ok (.if_icmp .ge 43, 3) := by decide +kernel
theorem dX11_inWords_75 : decode cX11_inWords 75 = .ok (.iload 5, 2) := by decide +kernel
theorem dX11_inWords_77 : decode cX11_inWords 77 = .ok (.ifCond .eq 38, 3) := by decide +kernel
theorem dX11_inWords_80 : decode cX11_inWords 80 = .ok (.aload_n 1, 1) := by decide +kernel
theorem dX11_inWords_81 : decode cX11_inWords 81 = .ok (.iload 6, 2) := by decide +kernel
theorem dX11_inWords_83 : decode cX11_inWords 83 = .ok (.invokevirtual 165, 3) := by decide +kernel
theorem dX11_inWords_86 : decode cX11_inWords 86 = .ok (.aload_n 0, 1) := by decide +kernel
theorem dX11_inWords_87 : decode cX11_inWords 87 = .ok (.aload_n 0, 1) := by decide +kernel
theorem dX11_inWords_88 : decode cX11_inWords 88 = .ok (.getfield 138, 3) := by decide +kernel
theorem dX11_inWords_91 : decode cX11_inWords 91 = .ok (.iload 6, 2) := by decide +kernel
theorem dX11_inWords_93 : decode cX11_inWords 93 = .ok (.iadd, 1) := by decide +kernel
theorem dX11_inWords_94 : decode cX11_inWords 94 = .ok (.iload_n 3, 1) := by decide +kernel
theorem dX11_inWords_95 : decode cX11_inWords 95 = .ok (.isub, 1) := by decide +kernel
theorem dX11_inWords_96 : decode cX11_inWords 96 = .ok (.invokevirtual 134, 3) := by decide +kernel
theorem dX11_inWords_99 : decode cX11_inWords 99 = .ok (.if_icmp .ne 7, 3) := by decide +kernel
theorem dX11_inWords_102 : decode cX11_inWords 102 = .ok (.iconst 1, 1) := by decide +kernel
theorem dX11_inWords_103 : decode cX11_inWords 103 = .ok (.goto 4, 3) := by decide +kernel
theorem dX11_inWords_106 : decode cX11_inWords 106 = .ok (.iconst 0, 1) := by decide +kernel
theorem dX11_inWords_107 : decode cX11_inWords 107 = .ok (.istore 5, 2) := by decide +kernel
theorem dX11_inWords_109 : decode cX11_inWords 109 = .ok (.iinc 6 1, 3) := by decide +kernel
theorem dX11_inWords_112 : decode cX11_inWords 112 = .ok (.goto (-44), 3) := by decide +kernel
theorem dX11_inWords_115 : decode cX11_inWords 115 = .ok (.iload 5, 2) := by decide +kernel
theorem dX11_inWords_117 : decode cX11_inWords 117 = .ok (.ifCond .eq 5, 3) := by decide +kernel
theorem dX11_inWords_120 : decode cX11_inWords 120 = .ok (.iload_n 2, 1) := by decide +kernel
theorem dX11_inWords_121 : decode cX11_inWords 121 = .ok (.ireturn, 1) := by decide +kernel
theorem dX11_inWords_122 : decode cX11_inWords 122 = .ok (.iinc 2 1, 3) := by decide +kernel
theorem dX11_inWords_125 : decode cX11_inWords 125 = .ok (.iload 4, 2) := by decide +kernel
theorem dX11_inWords_127 : decode cX11_inWords 127 = .ok (.iconst 1, 1) := by decide +kernel
theorem dX11_inWords_128 : decode cX11_inWords 128 = .ok (.iadd, 1) := by decide +kernel
theorem dX11_inWords_129 : decode cX11_inWords 129 = .ok (.istore_n 3, 1) := by decide +kernel
theorem dX11_inWords_130 : decode cX11_inWords 130 = .ok (.goto (-116), 3) := by decide +kernel
theorem dX11_inWords_133 : decode cX11_inWords 133 = .ok (.iconst (-1), 1) := by decide +kernel
theorem dX11_inWords_134 : decode cX11_inWords 134 = .ok (.ireturn, 1) := by decide +kernel
theorem dX11_fails_0 : decode cX11_fails 0 = .ok (.aload_n 0, 1) := by decide +kernel
theorem dX11_fails_1 : decode cX11_fails 1 = .ok (.getfield 169, 3) := by decide +kernel
theorem dX11_fails_4 : decode cX11_fails 4 = .ok (.ifCond .ne 28, 3) := by decide +kernel
theorem dX11_fails_7 : decode cX11_fails 7 = .ok (.aload_n 0, 1) := by decide +kernel
theorem dX11_fails_8 : decode cX11_fails 8 = .ok (.aload_n 0, 1) := by decide +kernel
theorem dX11_fails_9 : decode cX11_fails 9 = .ok (.getfield 144, 3) := by decide +kernel
theorem dX11_fails_12 : decode cX11_fails 12 = .ok (.iconst 1, 1) := by decide +kernel
theorem dX11_fails_13 : decode cX11_fails 13 = .ok (.if_icmp .ne 7, 3) := by decide +kernel
theorem dX11_fails_16 : decode cX11_fails 16 = .ok (.iconst 1, 1) := by decide +kernel
theorem dX11_fails_17 : decode cX11_fails 17 = .ok (.goto 4, 3) := by decide +kernel
theorem dX11_fails_20 : decode cX11_fails 20 = .ok (.iload_n 1, 1) := by decide +kernel
theorem dX11_fails_21 : decode cX11_fails 21 = .ok (.putfield 169, 3) := by decide +kernel
theorem dX11_fails_24 : decode cX11_fails 24 = .ok (.aload_n 0, 1) := by decide +kernel
theorem dX11_fails_25 : decode cX11_fails 25 = .ok (.aload_n 0, 1) := by decide +kernel
theorem dX11_fails_26 : decode cX11_fails 26 = .ok (.getfield 138, 3) := by decide +kernel
theorem dX11_fails_29 : decode cX11_fails 29 = .ok (.putfield 38, 3) := by decide +kernel
theorem dX11_fails_32 : decode cX11_fails 32 = .ok (.iconst 0, 1) := by decide +kernel
theorem dX11_fails_33 : decode cX11_fails 33 = .ok (.ireturn, 1) := by decide +kernel
theorem dX11_begins_0 : decode cX11_begins 0 = .ok (.iload_n 1, 1) := by decide +kernel
theorem dX11_begins_1 : decode cX11_begins 1 = .ok (.ifCond .lt 16, 3) := by decide +kernel
theorem dX11_begins_4 : decode cX11_begins 4 = .ok (.iload_n 1, 1) := by decide +kernel
theorem dX11_begins_5 : decode cX11_begins 5 = .ok (.aload_n 0, 1) := by decide +kernel
theorem dX11_begins_6 : decode cX11_begins 6 = .ok (.getfield 122, 3) := by decide +kernel
theorem dX11_begins_9 : decode cX11_begins 9 = .ok (.if_icmp .gt 8, 3) := by decide +kernel
theorem dX11_begins_12 : decode cX11_begins 12 = .ok (.iload_n 1, 1) := by decide +kernel
theorem dX11_begins_13 : decode cX11_begins 13 = .ok (.iload_n 2, 1) := by decide +kernel
theorem dX11_begins_14 : decode cX11_begins 14 = .ok (.if_icmp .le 5, 3) := by decide +kernel
theorem dX11_begins_17 : decode cX11_begins 17 = .ok (.iconst 0, 1) := by decide +kernel
theorem dX11_begins_18 : decode cX11_begins 18 = .ok (.ireturn, 1) := by decide +kernel
theorem dX11_begins_19 : decode cX11_begins 19 = .ok (.aload_n 0, 1) := by decide +kernel
theorem dX11_begins_20 : decode cX11_begins 20 = .ok (.iload_n 1, 1) := by decide +kernel
theorem dX11_begins_21 : decode cX11_begins 21 = .ok (.putfield 128, 3) := by decide +kernel
theorem dX11_begins_24 : decode cX11_begins 24 = .ok (.iconst 0, 1) := by decide +kernel
theorem dX11_begins_25 : decode cX11_begins 25 = .ok (.istore_n 3, 1) := by decide +kernel
theorem dX11_begins_26 : decode cX11_begins 26 = .ok (.iload_n 3, 1) := by decide +kernel
theorem dX11_begins_27 : decode cX11_begins 27 = .ok (.iload_n 1, 1) := by decide +kernel
theorem dX11_begins_28 : decode cX11_begins 28 = .ok (.if_icmp .ge 21, 3) := by decide +kernel
theorem dX11_begins_31 : decode cX11_begins 31 = .ok (.aload_n 0, 1) := by decide +kernel
theorem dX11_begins_32 : decode cX11_begins 32 = .ok (.getfield 31, 3) := by decide +kernel
theorem dX11_begins_35 : decode cX11_begins 35 = .ok (.iload_n 3, 1) := by decide +kernel
theorem dX11_begins_36 : decode cX11_begins 36 = .ok (.aload_n 0, 1) := by decide +kernel
theorem dX11_begins_37 : decode cX11_begins 37 = .ok (.getfield 27, 3) := by decide +kernel
theorem dX11_begins_40 : decode cX11_begins 40 = .ok (.iload_n 3, 1) := by decide +kernel
theorem dX11_begins_41 : decode cX11_begins 41 = .ok (.baload, 1) := by decide +kernel
theorem dX11_begins_42 : decode cX11_begins 42 = .ok (.bastore, 1) := by decide +kernel
theorem dX11_begins_43 : decode cX11_begins 43 = .ok (.iinc 3 1, 3) := by decide +kernel
theorem dX11_begins_46 : decode cX11_begins 46 = .ok (.goto (-20), 3) := by decide +kernel
theorem dX11_begins_49 : decode cX11_begins 49 = .ok (.aload_n 0, 1) := by decide +kernel
theorem dX11_begins_50 : decode cX11_begins 50 = .ok (.iconst 0, 1) := by decide +kernel
theorem dX11_begins_51 : decode cX11_begins 51 = .ok (.putfield 122, 3) := by decide +kernel
theorem dX11_begins_54 : decode cX11_begins 54 = .ok (.aload_n 0, 1) := by decide +kernel
theorem dX11_begins_55 : decode cX11_begins 55 = .ok (.iconst 0, 1) := by decide +kernel
theorem dX11_begins_56 : decode cX11_begins 56 = .ok (.putfield 169, 3) := by decide +kernel
theorem dX11_begins_59 : decode cX11_begins 59 = .ok (.aload_n 0, 1) := by decide +kernel
theorem dX11_begins_60 : decode cX11_begins 60 = .ok (.iconst (-1), 1) := by decide +kernel
theorem dX11_begins_61 : decode cX11_begins 61 = .ok (.putfield 38, 3) := by decide +kernel
theorem dX11_begins_64 : decode cX11_begins 64 = .ok (.aload_n 0, 1) := by decide +kernel
theorem dX11_begins_65 : decode cX11_begins 65 = .ok (.iconst 0, 1) := by decide +kernel
theorem dX11_begins_66 : decode cX11_begins 66 = .ok (.putfield 131, 3) := by decide +kernel
theorem dX11_begins_69 : decode cX11_begins 69 = .ok (.aload_n 0, 1) := by decide +kernel
theorem dX11_begins_70 : decode cX11_begins 70 = .ok (.iconst 0, 1) := by decide +kernel
theorem dX11_begins_71 : decode cX11_begins 71 = .ok (.putfield 172, 3) := by decide +kernel
theorem dX11_begins_74 : decode cX11_begins 74 = .ok (.aload_n 0, 1) := by decide +kernel
theorem dX11_begins_75 : decode cX11_begins 75 = .ok (.invokevirtual 175, 3) := by decide +kernel
theorem dX11_begins_78 : decode cX11_begins 78 = .ok (.iconst 1, 1) := by decide +kernel
theorem dX11_begins_79 : decode cX11_begins 79 = .ok (.ireturn, 1) := by decide +kernel
theorem dX11_wantSign_0 : decode cX11_wantSign 0 = .ok (.aload_n 0, 1) := by decide +kernel
theorem dX11_wantSign_1 : decode cX11_wantSign 1 = .ok (.iload_n 1, 1) := by decide +kernel
theorem dX11_wantSign_2 : decode cX11_wantSign 2 = .ok (.invokevirtual 178, 3) := by decide +kernel
theorem dX11_wantSign_5 : decode cX11_wantSign 5 = .ok (.ifCond .ne 9, 3) := by decide +kernel
theorem dX11_wantSign_8 : decode cX11_wantSign 8 = .ok (.aload_n 0, 1) := by decide +kernel
theorem dX11_wantSign_9 : decode cX11_wantSign 9 = .ok (.iconst 2, 1) := by decide +kernel
theorem dX11_wantSign_10 : decode cX11_wantSign 10 = .ok (.invokevirtual 181, 3) := by decide +kernel
theorem dX11_wantSign_13 : decode cX11_wantSign 13 = .ok (.ireturn, 1) := by decide +kernel
theorem dX11_wantSign_14 : decode cX11_wantSign 14 = .ok (.aload_n 0, 1) := by decide +kernel
theorem dX11_wantSign_15 : decode cX11_wantSign 15 = .ok (.invokevirtual 175, 3) := by decide +kernel
theorem dX11_wantSign_18 : decode cX11_wantSign 18 = .ok (.iconst 1, 1) := by decide +kernel
theorem dX11_wantSign_19 : decode cX11_wantSign 19 = .ok (.ireturn, 1) := by decide +kernel
theorem dX11_wantWord_0 : decode cX11_wantWord 0 = .ok (.aload_n 0, 1) := by decide +kernel
theorem dX11_wantWord_1 : decode cX11_wantWord 1 = .ok (.aload_n 1, 1) := by decide +kernel
theorem dX11_wantWord_2 : decode cX11_wantWord 2 = .ok (.invokevirtual 184, 3) := by decide +kernel
theorem dX11_wantWord_5 : decode cX11_wantWord 5 = .ok (.iload_n 2, 1) := by decide +kernel
theorem dX11_wantWord_6 : decode cX11_wantWord 6 = .ok (.if_icmp .eq 9, 3) := by decide +kernel
theorem dX11_wantWord_9 : decode cX11_wantWord 9 = .ok (.aload_n 0, 1) := by decide +kernel
theorem dX11_wantWord_10 : decode cX11_wantWord 10 = .ok (.iconst 2, 1) := by decide +kernel
theorem dX11_wantWord_11 : decode cX11_wantWord 11 = .ok (.invokevirtual 181, 3) := by decide +kernel
theorem dX11_wantWord_14 : decode cX11_wantWord 14 = .ok (.ireturn, 1) := by decide +kernel
theorem dX11_wantWord_15 : decode cX11_wantWord 15 = .ok (.aload_n 0, 1) := by decide +kernel
theorem dX11_wantWord_16 : decode cX11_wantWord 16 = .ok (.invokevirtual 175, 3) := by decide +kernel
theorem dX11_wantWord_19 : decode cX11_wantWord 19 = .ok (.iconst 1, 1) := by decide +kernel
theorem dX11_wantWord_20 : decode cX11_wantWord 20 = .ok (.ireturn, 1) := by decide +kernel
theorem dX11_number_0 : decode cX11_number 0 = .ok (.aload_n 0, 1) := by decide +kernel
theorem dX11_number_1 : decode cX11_number 1 = .ok (.getfield 144, 3) := by decide +kernel
theorem dX11_number_4 : decode cX11_number 4 = .ok (.iconst 3, 1) := by decide +kernel
theorem dX11_number_5 : decode cX11_number 5 = .ok (.if_icmp .eq 9, 3) := by decide +kernel
theorem dX11_number_8 : decode cX11_number 8 = .ok (.aload_n 0, 1) := by decide +kernel
theorem dX11_number_9 : decode cX11_number 9 = .ok (.iconst 2, 1) := by decide +kernel
theorem dX11_number_10 : decode cX11_number 10 = .ok (.invokevirtual 181, 3) := by decide +kernel
theorem dX11_number_13 : decode cX11_number 13 = .ok (.ireturn, 1) := by decide +kernel
theorem dX11_number_14 : decode cX11_number 14 = .ok (.aload_n 0, 1) := by decide +kernel
theorem dX11_number_15 : decode cX11_number 15 = .ok (.getfield 141, 3) := by decide +kernel
theorem dX11_number_18 : decode cX11_number 18 = .ok (.iload_n 2, 1) := by decide +kernel
theorem dX11_number_19 : decode cX11_number 19 = .ok (.if_icmp .lt 11, 3) := by decide +kernel
theorem dX11_number_22 : decode cX11_number 22 = .ok (.aload_n 0, 1) := by decide +kernel
theorem dX11_number_23 : decode cX11_number 23 = .ok (.getfield 141, 3) := by decide +kernel
theorem dX11_number_26 : decode cX11_number 26 = .ok (.iload_n 3, 1) := by decide +kernel
theorem dX11_number_27 : decode cX11_number 27 = .ok (.if_icmp .le 9, 3) := by decide +kernel
theorem dX11_number_30 : decode cX11_number 30 = .ok (.aload_n 0, 1) := by decide +kernel
theorem dX11_number_31 : decode cX11_number 31 = .ok (.iconst 4, 1) := by decide +kernel
theorem dX11_number_32 : decode cX11_number 32 = .ok (.invokevirtual 181, 3) := by decide +kernel
theorem dX11_number_35 : decode cX11_number 35 = .ok (.ireturn, 1) := by decide +kernel
theorem dX11_number_36 : decode cX11_number 36 = .ok (.aload_n 0, 1) := by decide +kernel
theorem dX11_number_37 : decode cX11_number 37 = .ok (.getfield 7, 3) := by decide +kernel
theorem dX11_number_40 : decode cX11_number 40 = .ok (.iload_n 1, 1) := by decide +kernel
theorem dX11_number_41 : decode cX11_number 41 = .ok (.aload_n 0, 1) := by decide +kernel
theorem dX11_number_42 : decode cX11_number 42 = .ok (.getfield 141, 3) := by decide +kernel
theorem dX11_number_45 : decode cX11_number 45 = .ok (.iastore, 1) := by decide +kernel
theorem dX11_number_46 : decode cX11_number 46 = .ok (.aload_n 0, 1) := by decide +kernel
theorem dX11_number_47 : decode cX11_number 47 = .ok (.invokevirtual 175, 3) := by decide +kernel
theorem dX11_number_50 : decode cX11_number 50 = .ok (.iconst 1, 1) := by decide +kernel
theorem dX11_number_51 : decode cX11_number 51 = .ok (.ireturn, 1) := by decide +kernel
theorem dX11_fault_0 : decode cX11_fault 0 = .ok (.iload_n 1, 1) := by decide +kernel
theorem dX11_fault_1 : decode cX11_fault 1 = .ok (.ifCond .ne 10, 3) := by decide +kernel
theorem dX11_fault_4 : decode cX11_fault 4 = .ok (.aload_n 0, 1) := by decide +kernel
theorem dX11_fault_5 : decode cX11_fault 5 = .ok (.getfield 34, 3) := by decide +kernel
theorem dX11_fault_8 : decode cX11_fault 8 = .ok (.goto 16, 3) := by decide +kernel
theorem dX11_fault_11 : decode cX11_fault 11 = .ok (.iload_n 1, 1) := by decide +kernel
theorem dX11_fault_12 : decode cX11_fault 12 = .ok (.iconst 1, 1) := by decide +kernel
theorem dX11_fault_13 : decode cX11_fault 13 = .ok (.if_icmp .ne 10, 3) := by decide +kernel
theorem dX11_fault_16 : decode cX11_fault 16 = .ok (.aload_n 0, 1) := by decide +kernel
theorem dX11_fault_17 : decode cX11_fault 17 = .ok (.getfield 38, 3) := by decide +kernel
theorem dX11_fault_20 : decode cX11_fault 20 = .ok (.goto 4, 3) := by decide +kernel
theorem dX11_fault_23 : decode cX11_fault 23 = .ok (.iconst (-1), 1) := by decide +kernel
theorem dX11_fault_24 : decode cX11_fault 24 = .ok (.ireturn, 1) := by decide +kernel
theorem dX11_taken_0 : decode cX11_taken 0 = .ok (.aload_n 0, 1) := by decide +kernel
theorem dX11_taken_1 : decode cX11_taken 1 = .ok (.aload_n 0, 1) := by decide +kernel
theorem dX11_taken_2 : decode cX11_taken 2 = .ok (.getfield 169, 3) := by decide +kernel
theorem dX11_taken_5 : decode cX11_taken 5 = .ok (.putfield 34, 3) := by decide +kernel
theorem dX11_taken_8 : decode cX11_taken 8 = .ok (.aload_n 0, 1) := by decide +kernel
theorem dX11_taken_9 : decode cX11_taken 9 = .ok (.getfield 169, 3) := by decide +kernel
theorem dX11_taken_12 : decode cX11_taken 12 = .ok (.ifCond .le 12, 3) := by decide +kernel
theorem dX11_taken_15 : decode cX11_taken 15 = .ok (.aload_n 0, 1) := by decide +kernel
theorem dX11_taken_16 : decode cX11_taken 16 = .ok (.bipush 9, 2) := by decide +kernel
theorem dX11_taken_18 : decode cX11_taken 18 = .ok (.invokevirtual 188, 3) := by decide +kernel
theorem dX11_taken_21 : decode cX11_taken 21 = .ok (.goto 8, 3) := by decide +kernel
theorem dX11_taken_24 : decode cX11_taken 24 = .ok (.aload_n 0, 1) := by decide +kernel
theorem dX11_taken_25 : decode cX11_taken 25 = .ok (.iload_n 1, 1) := by decide +kernel
theorem dX11_taken_26 : decode cX11_taken 26 = .ok (.invokevirtual 191, 3) := by decide +kernel
theorem dX11_taken_29 : decode cX11_taken 29 = .ok (.ireturn, 1) := by decide +kernel
theorem dX11_ruleAt_0 : decode cX11_ruleAt 0 = .ok (.iload_n 0, 1) := by decide +kernel
theorem dX11_ruleAt_1 : decode cX11_ruleAt 1 = .ok (.bipush 12, 2) := by decide +kernel
theorem dX11_ruleAt_3 : decode cX11_ruleAt 3 = .ok (.iadd, 1) := by decide +kernel
theorem dX11_ruleAt_4 : decode cX11_ruleAt 4 = .ok (.bipush 12, 2) := by decide +kernel
theorem dX11_ruleAt_6 : decode cX11_ruleAt 6 = .ok (.iload_n 1, 1) := by decide +kernel
theorem dX11_ruleAt_7 : decode cX11_ruleAt 7 = .ok (.imul, 1) := by decide +kernel
theorem dX11_ruleAt_8 : decode cX11_ruleAt 8 = .ok (.iadd, 1) := by decide +kernel
theorem dX11_ruleAt_9 : decode cX11_ruleAt 9 = .ok (.ireturn, 1) := by decide +kernel
theorem dX11_likeRule_0 : decode cX11_likeRule 0 = .ok (.aload_n 0, 1) := by decide +kernel
theorem dX11_likeRule_1 : decode cX11_likeRule 1 = .ok (.getfield 7, 3) := by decide +kernel
theorem dX11_likeRule_4 : decode cX11_likeRule 4 = .ok (.iload_n 1, 1) := by decide +kernel
theorem dX11_likeRule_5 : decode cX11_likeRule 5 = .ok (.iaload, 1) := by decide +kernel
theorem dX11_likeRule_6 : decode cX11_likeRule 6 = .ok (.aload_n 0, 1) := by decide +kernel
theorem dX11_likeRule_7 : decode cX11_likeRule 7 = .ok (.getfield 7, 3) := by decide +kernel
theorem dX11_likeRule_10 : decode cX11_likeRule 10 = .ok (.iload_n 2, 1) := by decide +kernel
theorem dX11_likeRule_11 : decode cX11_likeRule 11 = .ok (.iaload, 1) := by decide +kernel
theorem dX11_likeRule_12 : decode cX11_likeRule 12 = .ok (.if_icmp .ne 28, 3) := by decide +kernel
theorem dX11_likeRule_15 : decode cX11_likeRule 15 = .ok (.aload_n 0, 1) := by decide +kernel
theorem dX11_likeRule_16 : decode cX11_likeRule 16 = .ok (.getfield 7, 3) := by decide +kernel
theorem dX11_likeRule_19 : decode cX11_likeRule 19 = .ok (.iload_n 1, 1) := by decide +kernel
theorem dX11_likeRule_20 : decode cX11_likeRule 20 = .ok (.bipush 11, 2) := by decide +kernel
theorem dX11_likeRule_22 : decode cX11_likeRule 22 = .ok (.iadd, 1) := by decide +kernel
theorem dX11_likeRule_23 : decode cX11_likeRule 23 = .ok (.iaload, 1) := by decide +kernel
theorem dX11_likeRule_24 : decode cX11_likeRule 24 = .ok (.aload_n 0, 1) := by decide +kernel
theorem dX11_likeRule_25 : decode cX11_likeRule 25 = .ok (.getfield 7, 3) := by decide +kernel
theorem dX11_likeRule_28 : decode cX11_likeRule 28 = .ok (.iload_n 2, 1) := by decide +kernel
theorem dX11_likeRule_29 : decode cX11_likeRule 29 = .ok (.bipush 11, 2) := by decide +kernel
theorem dX11_likeRule_31 : decode cX11_likeRule 31 = .ok (.iadd, 1) := by decide +kernel
theorem dX11_likeRule_32 : decode cX11_likeRule 32 = .ok (.iaload, 1) := by decide +kernel
theorem dX11_likeRule_33 : decode cX11_likeRule 33 = .ok (.if_icmp .ne 7, 3) := by decide +kernel
theorem dX11_likeRule_36 : decode cX11_likeRule 36 = .ok (.iconst 1, 1) := by decide +kernel
theorem dX11_likeRule_37 : decode cX11_likeRule 37 = .ok (.goto 4, 3) := by decide +kernel
theorem dX11_likeRule_40 : decode cX11_likeRule 40 = .ok (.iconst 0, 1) := by decide +kernel
theorem dX11_likeRule_41 : decode cX11_likeRule 41 = .ok (.istore_n 3, 1) := by decide +kernel
theorem dX11_likeRule_42 : decode cX11_likeRule 42 = .ok (.iconst 0, 1) := by decide +kernel
theorem dX11_likeRule_43 : decode cX11_likeRule 43 = .ok (.istore 4, 2) := by decide +kernel
theorem dX11_likeRule_45 : decode cX11_likeRule 45 = .ok (.iload 4, 2) := by decide +kernel
theorem dX11_likeRule_47 : decode cX11_likeRule 47 = .ok (.aload_n 0, 1) := by decide +kernel
theorem dX11_likeRule_48 : decode cX11_likeRule 48 = .ok (.getfield 7, 3) := by decide +kernel
theorem dX11_likeRule_51 : decode cX11_likeRule 51 = .ok (.iload_n 1, 1) := by decide +kernel
theorem dX11_likeRule_52 : decode cX11_likeRule 52 = .ok (.iaload, 1) := by decide +kernel
theorem dX11_likeRule_53 : decode cX11_likeRule 53 = .ok (.if_icmp .ge 44, 3) := by decide +kernel
theorem dX11_likeRule_56 : decode cX11_likeRule 56 = .ok (.iload_n 3, 1) := by decide +kernel
theorem dX11_likeRule_57 : decode cX11_likeRule 57 = .ok (.ifCond .eq 40, 3) := by decide +kernel
theorem dX11_likeRule_60 : decode cX11_likeRule 60 = .ok (.aload_n 0, 1) := by decide +kernel
theorem dX11_likeRule_61 : decode cX11_likeRule 61 = .ok (.getfield 7, 3) := by decide +kernel
theorem dX11_likeRule_64 : decode cX11_likeRule 64 = .ok (.iload_n 1, 1) := by decide +kernel
theorem dX11_likeRule_65 : decode cX11_likeRule 65 = .ok (.iconst 1, 1) := by decide +kernel
theorem dX11_likeRule_66 : decode cX11_likeRule 66 = .ok (.iadd, 1) := by decide +kernel
theorem dX11_likeRule_67 : decode cX11_likeRule 67 = .ok (.iload 4, 2) := by decide +kernel
theorem dX11_likeRule_69 : decode cX11_likeRule 69 = .ok (.iadd, 1) := by decide +kernel
theorem dX11_likeRule_70 : decode cX11_likeRule 70 = .ok (.iaload, 1) := by decide +kernel
theorem dX11_likeRule_71 : decode cX11_likeRule 71 = .ok (.aload_n 0, 1) := by decide +kernel
theorem dX11_likeRule_72 : decode cX11_likeRule 72 = .ok (.getfield 7, 3) := by decide +kernel
theorem dX11_likeRule_75 : decode cX11_likeRule 75 = .ok (.iload_n 2, 1) := by decide +kernel
theorem dX11_likeRule_76 : decode cX11_likeRule 76 = .ok (.iconst 1, 1) := by decide +kernel
theorem dX11_likeRule_77 : decode cX11_likeRule 77 = .ok (.iadd, 1) := by decide +kernel
theorem dX11_likeRule_78 : decode cX11_likeRule 78 = .ok (.iload 4, 2) := by decide +kernel
theorem dX11_likeRule_80 : decode cX11_likeRule 80 = .ok (.iadd, 1) := by decide +kernel
theorem dX11_likeRule_81 : decode cX11_likeRule 81 = .ok (.iaload, 1) := by decide +kernel
theorem dX11_likeRule_82 : decode cX11_likeRule 82 = .ok (.if_icmp .ne 7, 3) := by decide +kernel
theorem dX11_likeRule_85 : decode cX11_likeRule 85 = .ok (.iconst 1, 1) := by decide +kernel
theorem dX11_likeRule_86 : decode cX11_likeRule 86 = .ok (.goto 4, 3) := by decide +kernel
theorem dX11_likeRule_89 : decode cX11_likeRule 89 = .ok (.iconst 0, 1) := by decide +kernel
theorem dX11_likeRule_90 : decode cX11_likeRule 90 = .ok (.istore_n 3, 1) := by decide +kernel
theorem dX11_likeRule_91 : decode cX11_likeRule 91 = .ok (.iinc 4 1, 3) := by decide +kernel
theorem dX11_likeRule_94 : decode cX11_likeRule 94 = .ok (.goto (-49), 3) := by decide +kernel
theorem dX11_likeRule_97 : decode cX11_likeRule 97 = .ok (.iload_n 3, 1) := by decide +kernel
theorem dX11_likeRule_98 : decode cX11_likeRule 98 = .ok (.ireturn, 1) := by decide +kernel
theorem dX11_aRule_0 : decode cX11_aRule 0 = .ok (.aload_n 0, 1) := by decide +kernel
theorem dX11_aRule_1 : decode cX11_aRule 1 = .ok (.getfield 7, 3) := by decide +kernel
theorem dX11_aRule_4 : decode cX11_aRule 4 = .ok (.sipush 13200, 3) := by decide +kernel
theorem dX11_aRule_7 : decode cX11_aRule 7 = .ok (.iaload, 1) := by decide +kernel
theorem dX11_aRule_8 : decode cX11_aRule 8 = .ok (.istore_n 1, 1) := by decide +kernel
theorem dX11_aRule_9 : decode cX11_aRule 9 = .ok (.sipush 13200, 3) := by decide +kernel
theorem dX11_aRule_12 : decode cX11_aRule 12 = .ok (.iload_n 1, 1) := by decide +kernel
theorem dX11_aRule_13 : decode cX11_aRule 13 = .ok (.invokestatic 194, 3) := by decide +kernel
theorem dX11_aRule_16 : decode cX11_aRule 16 = .ok (.istore_n 2, 1) := by decide +kernel
theorem dX11_aRule_17 : decode cX11_aRule 17 = .ok (.iload_n 1, 1) := by decide +kernel
theorem dX11_aRule_18 : decode cX11_aRule 18 = .ok (.bipush 24, 2) := by decide +kernel
theorem dX11_aRule_20 : decode cX11_aRule 20 = .ok (.if_icmp .ne 10, 3) := by decide +kernel
theorem dX11_aRule_23 : decode cX11_aRule 23 = .ok (.aload_n 0, 1) := by decide +kernel
theorem dX11_aRule_24 : decode cX11_aRule 24 = .ok (.bipush 6, 2) := by decide +kernel
theorem dX11_aRule_26 : decode cX11_aRule 26 = .ok (.invokevirtual 181, 3) := by decide +kernel
theorem dX11_aRule_29 : decode cX11_aRule 29 = .ok (.ireturn, 1) := by decide +kernel
theorem dX11_aRule_30 : decode cX11_aRule 30 = .ok (.aload_n 0, 1) := by decide +kernel
theorem dX11_aRule_31 : decode cX11_aRule 31 = .ok (.invokevirtual 175, 3) := by decide +kernel
theorem dX11_aRule_34 : decode cX11_aRule 34 = .ok (.aload_n 0, 1) := by decide +kernel
theorem dX11_aRule_35 : decode cX11_aRule 35 = .ok (.getfield 144, 3) := by decide +kernel
theorem dX11_aRule_38 : decode cX11_aRule 38 = .ok (.iconst 2, 1) := by decide +kernel
theorem dX11_aRule_39 : decode cX11_aRule 39 = .ok (.if_icmp .ne 17, 3) := by decide +kernel
theorem dX11_aRule_42 : decode cX11_aRule 42 = .ok (.aload_n 0, 1) := by decide +kernel
theorem dX11_aRule_43 : decode cX11_aRule 43 = .ok (.getfield 131, 3) := by decide +kernel
theorem dX11_aRule_46 : decode cX11_aRule 46 = .ok (.aload_n 0, 1) := by decide +kernel
theorem dX11_aRule_47 : decode cX11_aRule 47 = .ok (.getfield 138, 3) := by decide +kernel
theorem dX11_aRule_50 : decode cX11_aRule 50 = .ok (.isub, 1) := by decide +kernel
theorem dX11_aRule_51 : decode cX11_aRule 51 = .ok (.bipush 6, 2) := by decide +kernel
theorem dX11_aRule_53 : decode cX11_aRule 53 = .ok (.if_icmp .le 9, 3) := by decide +kernel
theorem dX11_aRule_56 : decode cX11_aRule 56 = .ok (.aload_n 0, 1) := by decide +kernel
theorem dX11_aRule_57 : decode cX11_aRule 57 = .ok (.iconst 2, 1) := by decide +kernel
theorem dX11_aRule_58 : decode cX11_aRule 58 = .ok (.invokevirtual 181, 3) := by decide +kernel
theorem dX11_aRule_61 : decode cX11_aRule 61 = .ok (.ireturn, 1) := by decide +kernel
theorem dX11_aRule_62 : decode cX11_aRule 62 = .ok (.aload_n 0, 1) := by decide +kernel
theorem dX11_aRule_63 : decode cX11_aRule 63 = .ok (.getfield 7, 3) := by decide +kernel
theorem dX11_aRule_66 : decode cX11_aRule 66 = .ok (.iload_n 2, 1) := by decide +kernel
theorem dX11_aRule_67 : decode cX11_aRule 67 = .ok (.aload_n 0, 1) := by decide +kernel
theorem dX11_aRule_68 : decode cX11_aRule 68 = .ok (.getfield 131, 3) := by decide +kernel
theorem dX11_aRule_71 : decode cX11_aRule 71 = .ok (.aload_n 0, 1) := by decide +kernel
theorem dX11_aRule_72 : decode cX11_aRule 72 = .ok (.getfield 138, 3) := by decide +kernel
theorem dX11_aRule_75 : decode cX11_aRule 75 = .ok (.isub, 1) := by decide +kernel
theorem dX11_aRule_76 : decode cX11_aRule 76 = .ok (.iastore, 1) := by decide +kernel
theorem dX11_aRule_77 : decode cX11_aRule 77 = .ok (.iconst 0, 1) := by decide +kernel
theorem dX11_aRule_78 : decode cX11_aRule 78 = .ok (.istore_n 3, 1) := by decide +kernel
theorem dX11_aRule_79 : decode cX11_aRule 79 = .ok (.iload_n 3, 1) := by decide +kernel
theorem dX11_aRule_80 : decode cX11_aRule 80 = .ok (.bipush 6, 2) := by decide +kernel
theorem dX11_aRule_82 : decode cX11_aRule 82 = .ok (.if_icmp .ge 48, 3) := by decide +kernel
theorem dX11_aRule_85 : decode cX11_aRule 85 = .ok (.aload_n 0, 1) := by decide +kernel
theorem dX11_aRule_86 : decode cX11_aRule 86 = .ok (.getfield 7, 3) := by decide +kernel
theorem dX11_aRule_89 : decode cX11_aRule 89 = .ok (.iload_n 2, 1) := by decide +kernel
theorem dX11_aRule_90 : decode cX11_aRule 90 = .ok (.iconst 1, 1) := by decide +kernel
theorem dX11_aRule_91 : decode cX11_aRule 91 = .ok (.iadd, 1) := by decide +kernel
theorem dX11_aRule_92 : decode cX11_aRule 92 = .ok (.iload_n 3, 1) := by decide +kernel
theorem dX11_aRule_93 : decode cX11_aRule 93 = .ok (.iadd, 1) := by decide +kernel
theorem dX11_aRule_94 : decode cX11_aRule 94 = .ok (.iload_n 3, 1) := by decide +kernel
theorem dX11_aRule_95 : decode cX11_aRule 95 = .ok (.aload_n 0, 1) := by decide +kernel
theorem dX11_aRule_96 : decode cX11_aRule 96 = .ok (.getfield 7, 3) := by decide +kernel
theorem dX11_aRule_99 : decode cX11_aRule 99 = .ok (.iload_n 2, 1) := by decide +kernel
theorem dX11_aRule_100 : decode cX11_aRule 100 = .ok (.iaload, 1) := by decide +kernel
theorem dX11_aRule_101 : decode cX11_aRule 101 = .ok (.if_icmp .ge 21, 3) := by decide +kernel
theorem dX11_aRule_104 : decode cX11_aRule 104 = .ok (.aload_n 0, 1) := by decide +kernel
theorem dX11_aRule_105 : decode cX11_aRule 105 = .ok (.aload_n 0, 1) := by decide +kernel
theorem dX11_aRule_106 : decode cX11_aRule 106 = .ok (.getfield 138, 3) := by decide +kernel
theorem dX11_aRule_109 : decode cX11_aRule 109 = .ok (.iload_n 3, 1) := by decide +kernel
theorem dX11_aRule_110 : decode cX11_aRule 110 = .ok (.iadd, 1) := by decide +kernel
theorem dX11_aRule_111 : decode cX11_aRule 111 = .ok (.invokevirtual 134, 3) := by decide +kernel
theorem dX11_aRule_114 : decode cX11_aRule 114 = .ok (.bipush 97, 2) := by decide +kernel
theorem dX11_aRule_116 : decode cX11_aRule 116 = .ok (.isub, 1) := by decide +kernel
theorem dX11_aRule_117 : decode cX11_aRule 117 = .ok (.iconst 1, 1) := by decide +kernel
theorem dX11_aRule_118 : decode cX11_aRule 118 = .ok (.iadd, 1) := by decide +kernel
theorem dX11_aRule_119 : decode cX11_aRule 119 = .ok (.goto 4, 3) := by decide +kernel
theorem dX11_aRule_122 : decode cX11_aRule 122 = .ok (.iconst 0, 1) := by decide +kernel
theorem dX11_aRule_123 : decode cX11_aRule 123 = .ok (.iastore, 1) := by decide +kernel
theorem dX11_aRule_124 : decode cX11_aRule 124 = .ok (.iinc 3 1, 3) := by decide +kernel
theorem dX11_aRule_127 : decode cX11_aRule 127 = .ok (.goto (-48), 3) := by decide +kernel
theorem dX11_aRule_130 : decode cX11_aRule 130 = .ok (.aload_n 0, 1) := by decide +kernel
theorem dX11_aRule_131 : decode cX11_aRule 131 = .ok (.invokevirtual 175, 3) := by decide +kernel
theorem dX11_aRule_134 : decode cX11_aRule 134 = .ok (.aload_n 0, 1) := by decide +kernel
theorem dX11_aRule_135 : decode cX11_aRule 135 = .ok (.ldc 197, 2) := by decide +kernel
theorem dX11_aRule_137 : decode cX11_aRule 137 = .ok (.bipush 6, 2) := by decide +kernel
theorem dX11_aRule_139 : decode cX11_aRule 139 = .ok (.invokevirtual 199, 3) := by decide +kernel
theorem dX11_aRule_142 : decode cX11_aRule 142 = .ok (.ifCond .ne 5, 3) := by decide +kernel
theorem dX11_aRule_145 : decode cX11_aRule 145 = .ok (.iconst 0, 1) := by decide +kernel
theorem dX11_aRule_146 : decode cX11_aRule 146 = .ok (.ireturn, 1) := by decide +kernel
theorem dX11_aRule_147 : decode cX11_aRule 147 = .ok (.aload_n 0, 1) := by decide +kernel
theorem dX11_aRule_148 : decode cX11_aRule 148 = .ok (.getfield 144, 3) := by decide +kernel
theorem dX11_aRule_151 : decode cX11_aRule 151 = .ok (.iconst 3, 1) := by decide +kernel
theorem dX11_aRule_152 : decode cX11_aRule 152 = .ok (.if_icmp .eq 9, 3) := by decide +kernel
theorem dX11_aRule_155 : decode cX11_aRule 155 = .ok (.aload_n 0, 1) := by decide +kernel
theorem dX11_aRule_156 : decode cX11_aRule 156 = .ok (.iconst 2, 1) := by decide +kernel
theorem dX11_aRule_157 : decode cX11_aRule 157 = .ok (.invokevirtual 181, 3) := by decide +kernel
theorem dX11_aRule_160 : decode cX11_aRule 160 = .ok (.ireturn, 1) := by decide +kernel
theorem dX11_aRule_161 : decode cX11_aRule 161 = .ok (.aload_n 0, 1) := by decide +kernel
theorem dX11_aRule_162 : decode cX11_aRule 162 = .ok (.getfield 7, 3) := by decide +kernel
theorem dX11_aRule_165 : decode cX11_aRule 165 = .ok (.iload_n 2, 1) := by decide +kernel
theorem dX11_aRule_166 : decode cX11_aRule 166 = .ok (.bipush 7, 2) := by decide +kernel
theorem dX11_aRule_168 : decode cX11_aRule 168 = .ok (.iadd, 1) := by decide +kernel
theorem dX11_aRule_169 : decode cX11_aRule 169 = .ok (.iconst 0, 1) := by decide +kernel
theorem dX11_aRule_170 : decode cX11_aRule 170 = .ok (.iastore, 1) := by decide +kernel
theorem dX11_aRule_171 : decode cX11_aRule 171 = .ok (.aload_n 0, 1) := by decide +kernel
theorem dX11_aRule_172 : decode cX11_aRule 172 = .ok (.getfield 144, 3) := by decide +kernel
theorem dX11_aRule_175 : decode cX11_aRule 175 = .ok (.iconst 3, 1) := by decide +kernel
theorem dX11_aRule_176 : decode cX11_aRule 176 = .ok (.if_icmp .ne 90, 3) := by decide +kernel
theorem dX11_aRule_179 : decode cX11_aRule 179 = .ok (.aload_n 0, 1) := by decide +kernel
theorem dX11_aRule_180 : decode cX11_aRule 180 = .ok (.getfield 141, 3) := by decide +kernel
theorem dX11_aRule_183 : decode cX11_aRule 183 = .ok (.iconst 1, 1) := by decide +kernel
theorem dX11_aRule_184 : decode cX11_aRule 184 = .ok (.if_icmp .lt 12, 3) := by decide +kernel
theorem dX11_aRule_187 : decode cX11_aRule 187 = .ok (.aload_n 0, 1) := by decide +kernel
theorem dX11_aRule_188 : decode cX11_aRule 188 = .ok (.getfield 141, 3) := by decide +kernel
theorem dX11_aRule_191 : decode cX11_aRule 191 = .ok (.bipush 63, 2) := by decide +kernel
theorem dX11_aRule_193 : decode cX11_aRule 193 = .ok (.if_icmp .le 9, 3) := by decide +kernel
theorem dX11_aRule_196 : decode cX11_aRule 196 = .ok (.aload_n 0, 1) := by decide +kernel
theorem dX11_aRule_197 : decode cX11_aRule 197 = .ok (.iconst 4, 1) := by decide +kernel
theorem dX11_aRule_198 : decode cX11_aRule 198 = .ok (.invokevirtual 181, 3) := by decide +kernel
theorem dX11_aRule_201 : decode cX11_aRule 201 = .ok (.ireturn, 1) := by decide +kernel
theorem dX11_aRule_202 : decode cX11_aRule 202 = .ok (.aload_n 0, 1) := by decide +kernel
theorem dX11_aRule_203 : decode cX11_aRule 203 = .ok (.getfield 7, 3) := by decide +kernel
theorem dX11_aRule_206 : decode cX11_aRule 206 = .ok (.iload_n 2, 1) := by decide +kernel
theorem dX11_aRule_207 : decode cX11_aRule 207 = .ok (.bipush 7, 2) := by decide +kernel
theorem dX11_aRule_209 : decode cX11_aRule 209 = .ok (.iadd, 1) := by decide +kernel
theorem dX11_aRule_210 : decode cX11_aRule 210 = .ok (.iaload, 1) := by decide +kernel
theorem dX11_aRule_211 : decode cX11_aRule 211 = .ok (.iconst 3, 1) := by decide +kernel
theorem dX11_aRule_212 : decode cX11_aRule 212 = .ok (.if_icmp .ne 9, 3) := by decide +kernel
theorem dX11_aRule_215 : decode cX11_aRule 215 = .ok (.aload_n 0, 1) := by decide +kernel
theorem dX11_aRule_216 : decode cX11_aRule 216 = .ok (.iconst 5, 1) := by decide +kernel
theorem dX11_aRule_217 : decode cX11_aRule 217 = .ok (.invokevirtual 181, 3) := by decide +kernel
theorem dX11_aRule_220 : decode cX11_aRule 220 = .ok (.ireturn, 1) := by decide +kernel
theorem dX11_aRule_221 : decode cX11_aRule 221 = .ok (.aload_n 0, 1) := by decide +kernel
theorem dX11_aRule_222 : decode cX11_aRule 222 = .ok (.getfield 7, 3) := by decide +kernel
theorem dX11_aRule_225 : decode cX11_aRule 225 = .ok (.iload_n 2, 1) := by decide +kernel
theorem dX11_aRule_226 : decode cX11_aRule 226 = .ok (.bipush 7, 2) := by decide +kernel
theorem dX11_aRule_228 : decode cX11_aRule 228 = .ok (.iadd, 1) := by decide +kernel
theorem dX11_aRule_229 : decode cX11_aRule 229 = .ok (.iconst 1, 1) := by decide +kernel
theorem dX11_aRule_230 : decode cX11_aRule 230 = .ok (.iadd, 1) := by decide +kernel
theorem dX11_aRule_231 : decode cX11_aRule 231 = .ok (.aload_n 0, 1) := by decide +kernel
theorem dX11_aRule_232 : decode cX11_aRule 232 = .ok (.getfield 7, 3) := by decide +kernel
theorem dX11_aRule_235 : decode cX11_aRule 235 = .ok (.iload_n 2, 1) := by decide +kernel
theorem dX11_aRule_236 : decode cX11_aRule 236 = .ok (.bipush 7, 2) := by decide +kernel
theorem dX11_aRule_238 : decode cX11_aRule 238 = .ok (.iadd, 1) := by decide +kernel
theorem dX11_aRule_239 : decode cX11_aRule 239 = .ok (.iaload, 1) := by decide +kernel
theorem dX11_aRule_240 : decode cX11_aRule 240 = .ok (.iadd, 1) := by decide +kernel
theorem dX11_aRule_241 : decode cX11_aRule 241 = .ok (.aload_n 0, 1) := by decide +kernel
theorem dX11_aRule_242 : decode cX11_aRule 242 = .ok (.getfield 141, 3) := by decide +kernel
theorem dX11_aRule_245 : decode cX11_aRule 245 = .ok (.iastore, 1) := by decide +kernel
theorem dX11_aRule_246 : decode cX11_aRule 246 = .ok (.aload_n 0, 1) := by decide +kernel
theorem dX11_aRule_247 : decode cX11_aRule 247 = .ok (.getfield 7, 3) := by decide +kernel
theorem dX11_aRule_250 : decode cX11_aRule 250 = .ok (.iload_n 2, 1) := by decide +kernel
theorem dX11_aRule_251 : decode cX11_aRule 251 = .ok (.bipush 7, 2) := by decide +kernel
theorem dX11_aRule_253 : decode cX11_aRule 253 = .ok (.iadd, 1) := by decide +kernel
theorem dX11_aRule_254 : decode cX11_aRule 254 = .ok (.dup2, 1) := by decide +kernel
theorem dX11_aRule_255 : decode cX11_aRule 255 = .ok (.iaload, 1) := by decide +kernel
theorem dX11_aRule_256 : decode cX11_aRule 256 = .ok (.iconst 1, 1) := by decide +kernel
theorem dX11_aRule_257 : decode cX11_aRule 257 = .ok (.iadd, 1) := by decide +kernel
theorem dX11_aRule_258 : decode cX11_aRule 258 = .ok (.iastore, 1) := by decide +kernel
theorem dX11_aRule_259 : decode cX11_aRule 259 = .ok (.aload_n 0, 1) := by decide +kernel
theorem dX11_aRule_260 : decode cX11_aRule 260 = .ok (.invokevirtual 175, 3) := by decide +kernel
theorem dX11_aRule_263 : decode cX11_aRule 263 = .ok (.goto (-92), 3) := by decide +kernel
theorem dX11_aRule_266 : decode cX11_aRule 266 = .ok (.aload_n 0, 1) := by decide +kernel
theorem dX11_aRule_267 : decode cX11_aRule 267 = .ok (.ldc 197, 2) := by decide +kernel
theorem dX11_aRule_269 : decode cX11_aRule 269 = .ok (.invokevirtual 184, 3) := by decide +kernel
theorem dX11_aRule_272 : decode cX11_aRule 272 = .ok (.istore_n 3, 1) := by decide +kernel
theorem dX11_aRule_273 : decode cX11_aRule 273 = .ok (.aload_n 0, 1) := by decide +kernel
theorem dX11_aRule_274 : decode cX11_aRule 274 = .ok (.getfield 7, 3) := by decide +kernel
theorem dX11_aRule_277 : decode cX11_aRule 277 = .ok (.iload_n 2, 1) := by decide +kernel
theorem dX11_aRule_278 : decode cX11_aRule 278 = .ok (.bipush 11, 2) := by decide +kernel
theorem dX11_aRule_280 : decode cX11_aRule 280 = .ok (.iadd, 1) := by decide +kernel
theorem dX11_aRule_281 : decode cX11_aRule 281 = .ok (.iload_n 3, 1) := by decide +kernel
theorem dX11_aRule_282 : decode cX11_aRule 282 = .ok (.bipush 7, 2) := by decide +kernel
theorem dX11_aRule_284 : decode cX11_aRule 284 = .ok (.if_icmp .lt 18, 3) := by decide +kernel
theorem dX11_aRule_287 : decode cX11_aRule 287 = .ok (.iload_n 3, 1) := by decide +kernel
theorem dX11_aRule_288 : decode cX11_aRule 288 = .ok (.bipush 10, 2) := by decide +kernel
theorem dX11_aRule_290 : decode cX11_aRule 290 = .ok (.if_icmp .gt 12, 3) := by decide +kernel
theorem dX11_aRule_293 : decode cX11_aRule 293 = .ok (.iload_n 3, 1) := by decide +kernel
theorem dX11_aRule_294 : decode cX11_aRule 294 = .ok (.bipush 7, 2) := by decide +kernel
theorem dX11_aRule_296 : decode cX11_aRule 296 = .ok (.isub, 1) := by decide +kernel
theorem dX11_aRule_297 : decode cX11_aRule 297 = .ok (.iconst 1, 1) := by decide +kernel
theorem dX11_aRule_298 : decode cX11_aRule 298 = .ok (.iadd, 1) := by decide +kernel
theorem dX11_aRule_299 : decode cX11_aRule 299 = .ok (.goto 4, 3) := by decide +kernel
theorem dX11_aRule_302 : decode cX11_aRule 302 = .ok (.iconst 0, 1) := by decide +kernel
theorem dX11_aRule_303 : decode cX11_aRule 303 = .ok (.iastore, 1) := by decide +kernel
theorem dX11_aRule_304 : decode cX11_aRule 304 = .ok (.aload_n 0, 1) := by decide +kernel
theorem dX11_aRule_305 : decode cX11_aRule 305 = .ok (.getfield 7, 3) := by decide +kernel
theorem dX11_aRule_308 : decode cX11_aRule 308 = .ok (.iload_n 2, 1) := by decide +kernel
theorem dX11_aRule_309 : decode cX11_aRule 309 = .ok (.bipush 11, 2) := by decide +kernel
theorem dX11_aRule_311 : decode cX11_aRule 311 = .ok (.iadd, 1) := by decide +kernel
theorem dX11_aRule_312 : decode cX11_aRule 312 = .ok (.iaload, 1) := by decide +kernel
theorem dX11_aRule_313 : decode cX11_aRule 313 = .ok (.ifCond .le 7, 3) := by decide +kernel
theorem dX11_aRule_316 : decode cX11_aRule 316 = .ok (.aload_n 0, 1) := by decide +kernel
theorem dX11_aRule_317 : decode cX11_aRule 317 = .ok (.invokevirtual 175, 3) := by decide +kernel
theorem dX11_aRule_320 : decode cX11_aRule 320 = .ok (.aload_n 0, 1) := by decide +kernel
theorem dX11_aRule_321 : decode cX11_aRule 321 = .ok (.bipush 59, 2) := by decide +kernel
theorem dX11_aRule_323 : decode cX11_aRule 323 = .ok (.invokevirtual 178, 3) := by decide +kernel
theorem dX11_aRule_326 : decode cX11_aRule 326 = .ok (.ifCond .ne 9, 3) := by decide +kernel
theorem dX11_aRule_329 : decode cX11_aRule 329 = .ok (.aload_n 0, 1) := by decide +kernel
theorem dX11_aRule_330 : decode cX11_aRule 330 = .ok (.iconst 2, 1) := by decide +kernel
theorem dX11_aRule_331 : decode cX11_aRule 331 = .ok (.invokevirtual 181, 3) := by decide +kernel
theorem dX11_aRule_334 : decode cX11_aRule 334 = .ok (.ireturn, 1) := by decide +kernel
theorem dX11_aRule_335 : decode cX11_aRule 335 = .ok (.iconst 0, 1) := by decide +kernel
theorem dX11_aRule_336 : decode cX11_aRule 336 = .ok (.istore 4, 2) := by decide +kernel
theorem dX11_aRule_338 : decode cX11_aRule 338 = .ok (.iload 4, 2) := by decide +kernel
theorem dX11_aRule_340 : decode cX11_aRule 340 = .ok (.iload_n 1, 1) := by decide +kernel
theorem dX11_aRule_341 : decode cX11_aRule 341 = .ok (.if_icmp .ge 31, 3) := by decide +kernel
theorem dX11_aRule_344 : decode cX11_aRule 344 = .ok (.aload_n 0, 1) := by decide +kernel
theorem dX11_aRule_345 : decode cX11_aRule 345 = .ok (.sipush 13200, 3) := by decide +kernel
theorem dX11_aRule_348 : decode cX11_aRule 348 = .ok (.iload 4, 2) := by decide +kernel
theorem dX11_aRule_350 : decode cX11_aRule 350 = .ok (.invokestatic 194, 3) := by decide +kernel
theorem dX11_aRule_353 : decode cX11_aRule 353 = .ok (.iload_n 2, 1) := by decide +kernel
theorem dX11_aRule_354 : decode cX11_aRule 354 = .ok (.invokevirtual 203, 3) := by decide +kernel
theorem dX11_aRule_357 : decode cX11_aRule 357 = .ok (.ifCond .eq 9, 3) := by decide +kernel
theorem dX11_aRule_360 : decode cX11_aRule 360 = .ok (.aload_n 0, 1) := by decide +kernel
theorem dX11_aRule_361 : decode cX11_aRule 361 = .ok (.iconst 3, 1) := by decide +kernel
theorem dX11_aRule_362 : decode cX11_aRule 362 = .ok (.invokevirtual 181, 3) := by decide +kernel
theorem dX11_aRule_365 : decode cX11_aRule 365 = .ok (.ireturn, 1) := by decide +kernel
theorem dX11_aRule_366 : decode cX11_aRule 366 = .ok (.iinc 4 1, 3) := by decide +kernel
theorem dX11_aRule_369 : decode cX11_aRule 369 = .ok (.goto (-31), 3) := by decide +kernel
theorem dX11_aRule_372 : decode cX11_aRule 372 = .ok (.aload_n 0, 1) := by decide +kernel
theorem dX11_aRule_373 : decode cX11_aRule 373 = .ok (.getfield 7, 3) := by decide +kernel
theorem dX11_aRule_376 : decode cX11_aRule 376 = .ok (.sipush 13200, 3) := by decide +kernel
theorem dX11_aRule_379 : decode cX11_aRule 379 = .ok (.dup2, 1) := by decide +kernel
theorem dX11_aRule_380 : decode cX11_aRule 380 = .ok (.iaload, 1) := by decide +kernel
theorem dX11_aRule_381 : decode cX11_aRule 381 = .ok (.iconst 1, 1) := by decide +kernel
theorem dX11_aRule_382 : decode cX11_aRule 382 = .ok (.iadd, 1) := by decide +kernel
theorem dX11_aRule_383 : decode cX11_aRule 383 = .ok (.iastore, 1) := by decide +kernel
theorem dX11_aRule_384 : decode cX11_aRule 384 = .ok (.aload_n 0, 1) := by decide +kernel
theorem dX11_aRule_385 : decode cX11_aRule 385 = .ok (.bipush 59, 2) := by decide +kernel
theorem dX11_aRule_387 : decode cX11_aRule 387 = .ok (.invokevirtual 207, 3) := by decide +kernel
theorem dX11_aRule_390 : decode cX11_aRule 390 = .ok (.ireturn, 1) := by decide +kernel
theorem dX11_pressPart_0 : decode cX11_pressPart 0 = .ok (.aload_n 0, 1) := by decide +kernel
theorem dX11_pressPart_1 : decode cX11_pressPart 1 = .ok (.ldc 197, 2) := by decide +kernel
theorem dX11_pressPart_3 : decode cX11_pressPart 3 = .ok (.invokevirtual 184, 3) := by decide +kernel
theorem dX11_pressPart_6 : decode cX11_pressPart 6 = .ok (.istore_n 1, 1) := by decide +kernel
theorem dX11_pressPart_7 : decode cX11_pressPart 7 = .ok (.iload_n 1, 1) := by decide +kernel
theorem dX11_pressPart_8 : decode cX11_pressPart 8 = .ok (.ifCond .ne 8, 3) := by decide +kernel
theorem dX11_pressPart_11 : decode cX11_pressPart 11 = .ok (.aload_n 0, 1) := by decide +kernel
theorem dX11_pressPart_12 : decode cX11_pressPart 12 = .ok (.invokevirtual 210, 3) := by decide +kernel
theorem dX11_pressPart_15 : decode cX11_pressPart 15 = .ok (.ireturn, 1) := by decide +kernel
theorem dX11_pressPart_16 : decode cX11_pressPart 16 = .ok (.iload_n 1, 1) := by decide +kernel
theorem dX11_pressPart_17 : decode cX11_pressPart 17 = .ok (.iconst 1, 1) := by decide +kernel
theorem dX11_pressPart_18 : decode cX11_pressPart 18 = .ok (.if_icmp .lt 8, 3) := by decide +kernel
theorem dX11_pressPart_21 : decode cX11_pressPart 21 = .ok (.iload_n 1, 1) := by decide +kernel
theorem dX11_pressPart_22 : decode cX11_pressPart 22 = .ok (.iconst 5, 1) := by decide +kernel
theorem dX11_pressPart_23 : decode cX11_pressPart 23 = .ok (.if_icmp .le 9, 3) := by decide +kernel
theorem dX11_pressPart_26 : decode cX11_pressPart 26 = .ok (.aload_n 0, 1) := by decide +kernel
theorem dX11_pressPart_27 : decode cX11_pressPart 27 = .ok (.iconst 2, 1) := by decide +kernel
theorem dX11_pressPart_28 : decode cX11_pressPart 28 = .ok (.invokevirtual 181, 3) := by decide +kernel
theorem dX11_pressPart_31 : decode cX11_pressPart 31 = .ok (.ireturn, 1) := by decide +kernel
theorem dX11_pressPart_32 : decode cX11_pressPart 32 = .ok (.aload_n 0, 1) := by decide +kernel
theorem dX11_pressPart_33 : decode cX11_pressPart 33 = .ok (.getfield 214, 3) := by decide +kernel
theorem dX11_pressPart_36 : decode cX11_pressPart 36 = .ok (.iload_n 1, 1) := by decide +kernel
theorem dX11_pressPart_37 : decode cX11_pressPart 37 = .ok (.ishr, 1) := by decide +kernel
theorem dX11_pressPart_38 : decode cX11_pressPart 38 = .ok (.iconst 1, 1) := by decide +kernel
theorem dX11_pressPart_39 : decode cX11_pressPart 39 = .ok (.iand, 1) := by decide +kernel
theorem dX11_pressPart_40 : decode cX11_pressPart 40 = .ok (.iconst 1, 1) := by decide +kernel
theorem dX11_pressPart_41 : decode cX11_pressPart 41 = .ok (.if_icmp .ne 9, 3) := by decide +kernel
theorem dX11_pressPart_44 : decode cX11_pressPart 44 = .ok (.aload_n 0, 1) := by decide +kernel
theorem dX11_pressPart_45 : decode cX11_pressPart 45 = .ok (.iconst 5, 1) := by decide +kernel
theorem dX11_pressPart_46 : decode cX11_pressPart 46 = .ok (.invokevirtual 181, 3) := by decide +kernel
theorem dX11_pressPart_49 : decode cX11_pressPart 49 = .ok (.ireturn, 1) := by decide +kernel
theorem dX11_pressPart_50 : decode cX11_pressPart 50 = .ok (.aload_n 0, 1) := by decide +kernel
theorem dX11_pressPart_51 : decode cX11_pressPart 51 = .ok (.dup, 1) := by decide +kernel
theorem dX11_pressPart_52 : decode cX11_pressPart 52 = .ok (.getfield 214, 3) := by decide +kernel
theorem dX11_pressPart_55 : decode cX11_pressPart 55 = .ok (.iconst 1, 1) := by decide +kernel
theorem dX11_pressPart_56 : decode cX11_pressPart 56 = .ok (.iload_n 1, 1) := by decide +kernel
theorem dX11_pressPart_57 : decode cX11_pressPart 57 = .ok (.ishl, 1) := by decide +kernel
theorem dX11_pressPart_58 : decode cX11_pressPart 58 = .ok (.ior, 1) := by decide +kernel
theorem dX11_pressPart_59 : decode cX11_pressPart 59 = .ok (.putfield 214, 3) := by decide +kernel
theorem dX11_pressPart_62 : decode cX11_pressPart 62 = .ok (.aload_n 0, 1) := by decide +kernel
theorem dX11_pressPart_63 : decode cX11_pressPart 63 = .ok (.invokevirtual 175, 3) := by decide +kernel
theorem dX11_pressPart_66 : decode cX11_pressPart 66 = .ok (.iload_n 1, 1) := by decide +kernel
theorem dX11_pressPart_67 : decode cX11_pressPart 67 = .ok (.iconst 4, 1) := by decide +kernel
theorem dX11_pressPart_68 : decode cX11_pressPart 68 = .ok (.if_icmp .ne 19, 3) := by decide +kernel
theorem dX11_pressPart_71 : decode cX11_pressPart 71 = .ok (.aload_n 0, 1) := by decide +kernel
theorem dX11_pressPart_72 : decode cX11_pressPart 72 = .ok (.sipush 13204, 3) := by decide +kernel
theorem dX11_pressPart_75 : decode cX11_pressPart 75 = .ok (.iconst 4, 1) := by decide +kernel
theorem dX11_pressPart_76 : decode cX11_pressPart 76 = .ok (.bipush 40, 2) := by decide +kernel
theorem dX11_pressPart_78 : decode cX11_pressPart 78 = .ok (.invokevirtual 217, 3) := by decide +kernel
theorem dX11_pressPart_81 : decode cX11_pressPart 81 = .ok (.ifCond .eq 55, 3) := by decide +kernel
theorem dX11_pressPart_84 : decode cX11_pressPart 84 = .ok (.goto 39, 3) := by decide +kernel
theorem dX11_pressPart_87 : decode cX11_pressPart 87 = .ok (.iload_n 1, 1) := by decide +kernel
theorem dX11_pressPart_88 : decode cX11_pressPart 88 = .ok (.iconst 5, 1) := by decide +kernel
theorem dX11_pressPart_89 : decode cX11_pressPart 89 = .ok (.if_icmp .ne 19, 3) := by decide +kernel
theorem dX11_pressPart_92 : decode cX11_pressPart 92 = .ok (.aload_n 0, 1) := by decide +kernel
theorem dX11_pressPart_93 : decode cX11_pressPart 93 = .ok (.sipush 13205, 3) := by decide +kernel
theorem dX11_pressPart_96 : decode cX11_pressPart 96 = .ok (.iconst 2, 1) := by decide +kernel
theorem dX11_pressPart_97 : decode cX11_pressPart 97 = .ok (.bipush 30, 2) := by decide +kernel
theorem dX11_pressPart_99 : decode cX11_pressPart 99 = .ok (.invokevirtual 217, 3) := by decide +kernel
theorem dX11_pressPart_102 : decode cX11_pressPart 102 = .ok (.ifCond .eq 34, 3) := by decide +kernel
theorem dX11_pressPart_105 : decode cX11_pressPart 105 = .ok (.goto 18, 3) := by decide +kernel
theorem dX11_pressPart_108 : decode cX11_pressPart 108 = .ok (.aload_n 0, 1) := by decide +kernel
theorem dX11_pressPart_109 : decode cX11_pressPart 109 = .ok (.sipush 13200, 3) := by decide +kernel
theorem dX11_pressPart_112 : decode cX11_pressPart 112 = .ok (.iload_n 1, 1) := by decide +kernel
theorem dX11_pressPart_113 : decode cX11_pressPart 113 = .ok (.iadd, 1) := by decide +kernel
theorem dX11_pressPart_114 : decode cX11_pressPart 114 = .ok (.iconst 1, 1) := by decide +kernel
theorem dX11_pressPart_115 : decode cX11_pressPart 115 = .ok (.bipush 63, 2) := by decide +kernel
theorem dX11_pressPart_117 : decode cX11_pressPart 117 = .ok (.invokevirtual 217, 3) := by decide +kernel
theorem dX11_pressPart_120 : decode cX11_pressPart 120 = .ok (.ifCond .eq 16, 3) := by decide +kernel
theorem dX11_pressPart_123 : decode cX11_pressPart 123 = .ok (.aload_n 0, 1) := by decide +kernel
theorem dX11_pressPart_124 : decode cX11_pressPart 124 = .ok (.bipush 59, 2) := by decide +kernel
theorem dX11_pressPart_126 : decode cX11_pressPart 126 = .ok (.invokevirtual 207, 3) := by decide +kernel
theorem dX11_pressPart_129 : decode cX11_pressPart 129 = .ok (.ifCond .eq 7, 3) := by decide +kernel
theorem dX11_pressPart_132 : decode cX11_pressPart 132 = .ok (.iconst 1, 1) := by decide +kernel
theorem dX11_pressPart_133 : decode cX11_pressPart 133 = .ok (.goto 4, 3) := by decide +kernel
theorem dX11_pressPart_136 : decode cX11_pressPart 136 = .ok (.iconst 0, 1) := by decide +kernel
theorem dX11_pressPart_137 : decode cX11_pressPart 137 = .ok (.ireturn, 1) := by decide +kernel
theorem dX11_press_0 : decode cX11_press 0 = .ok (.aload_n 0, 1) := by decide +kernel
theorem dX11_press_1 : decode cX11_press 1 = .ok (.iload_n 1, 1) := by decide +kernel
theorem dX11_press_2 : decode cX11_press 2 = .ok (.sipush 900, 3) := by decide +kernel
theorem dX11_press_5 : decode cX11_press 5 = .ok (.invokevirtual 221, 3) := by decide +kernel
theorem dX11_press_8 : decode cX11_press 8 = .ok (.ifCond .ne 9, 3) := by decide +kernel
theorem dX11_press_11 : decode cX11_press 11 = .ok (.aload_n 0, 1) := by decide +kernel
theorem dX11_press_12 : decode cX11_press 12 = .ok (.iconst 1, 1) := by decide +kernel
theorem dX11_press_13 : decode cX11_press 13 = .ok (.invokevirtual 188, 3) := by decide +kernel
theorem dX11_press_16 : decode cX11_press 16 = .ok (.ireturn, 1) := by decide +kernel
theorem dX11_press_17 : decode cX11_press 17 = .ok (.aload_n 0, 1) := by decide +kernel
theorem dX11_press_18 : decode cX11_press 18 = .ok (.sipush 13200, 3) := by decide +kernel
theorem dX11_press_21 : decode cX11_press 21 = .ok (.invokevirtual 95, 3) := by decide +kernel
theorem dX11_press_24 : decode cX11_press 24 = .ok (.aload_n 0, 1) := by decide +kernel
theorem dX11_press_25 : decode cX11_press 25 = .ok (.iconst 0, 1) := by decide +kernel
theorem dX11_press_26 : decode cX11_press 26 = .ok (.putfield 214, 3) := by decide +kernel
theorem dX11_press_29 : decode cX11_press 29 = .ok (.iconst 1, 1) := by decide +kernel
theorem dX11_press_30 : decode cX11_press 30 = .ok (.istore_n 2, 1) := by decide +kernel
theorem dX11_press_31 : decode cX11_press 31 = .ok (.iload_n 2, 1) := by decide +kernel
theorem dX11_press_32 : decode cX11_press 32 = .ok (.ifCond .eq 18, 3) := by decide +kernel
theorem dX11_press_35 : decode cX11_press 35 = .ok (.aload_n 0, 1) := by decide +kernel
theorem dX11_press_36 : decode cX11_press 36 = .ok (.getfield 144, 3) := by decide +kernel
theorem dX11_press_39 : decode cX11_press 39 = .ok (.ifCond .eq 11, 3) := by decide +kernel
theorem dX11_press_42 : decode cX11_press 42 = .ok (.aload_n 0, 1) := by decide +kernel
theorem dX11_press_43 : decode cX11_press 43 = .ok (.invokevirtual 224, 3) := by decide +kernel
theorem dX11_press_46 : decode cX11_press 46 = .ok (.istore_n 2, 1) := by decide +kernel
theorem dX11_press_47 : decode cX11_press 47 = .ok (.goto (-16), 3) := by decide +kernel
theorem dX11_press_50 : decode cX11_press 50 = .ok (.aload_n 0, 1) := by decide +kernel
theorem dX11_press_51 : decode cX11_press 51 = .ok (.getfield 169, 3) := by decide +kernel
theorem dX11_press_54 : decode cX11_press 54 = .ok (.ifCond .ne 34, 3) := by decide +kernel
theorem dX11_press_57 : decode cX11_press 57 = .ok (.iconst 0, 1) := by decide +kernel
theorem dX11_press_58 : decode cX11_press 58 = .ok (.istore_n 3, 1) := by decide +kernel
theorem dX11_press_59 : decode cX11_press 59 = .ok (.iload_n 3, 1) := by decide +kernel
theorem dX11_press_60 : decode cX11_press 60 = .ok (.sipush 3300, 3) := by decide +kernel
theorem dX11_press_63 : decode cX11_press 63 = .ok (.if_icmp .ge 25, 3) := by decide +kernel
theorem dX11_press_66 : decode cX11_press 66 = .ok (.aload_n 0, 1) := by decide +kernel
theorem dX11_press_67 : decode cX11_press 67 = .ok (.getfield 7, 3) := by decide +kernel
theorem dX11_press_70 : decode cX11_press 70 = .ok (.iload_n 3, 1) := by decide +kernel
theorem dX11_press_71 : decode cX11_press 71 = .ok (.aload_n 0, 1) := by decide +kernel
theorem dX11_press_72 : decode cX11_press 72 = .ok (.getfield 7, 3) := by decide +kernel
theorem dX11_press_75 : decode cX11_press 75 = .ok (.sipush 13200, 3) := by decide +kernel
theorem dX11_press_78 : decode cX11_press 78 = .ok (.iload_n 3, 1) := by decide +kernel
theorem dX11_press_79 : decode cX11_press 79 = .ok (.iadd, 1) := by decide +kernel
theorem dX11_press_80 : decode cX11_press 80 = .ok (.iaload, 1) := by decide +kernel
theorem dX11_press_81 : decode cX11_press 81 = .ok (.iastore, 1) := by decide +kernel
theorem dX11_press_82 : decode cX11_press 82 = .ok (.iinc 3 1, 3) := by decide +kernel
theorem dX11_press_85 : decode cX11_press 85 = .ok (.goto (-26), 3) := by decide +kernel
theorem dX11_press_88 : decode cX11_press 88 = .ok (.aload_n 0, 1) := by decide +kernel
theorem dX11_press_89 : decode cX11_press 89 = .ok (.aload_n 0, 1) := by decide +kernel
theorem dX11_press_90 : decode cX11_press 90 = .ok (.getfield 7, 3) := by decide +kernel
theorem dX11_press_93 : decode cX11_press 93 = .ok (.iconst 0, 1) := by decide +kernel
theorem dX11_press_94 : decode cX11_press 94 = .ok (.iaload, 1) := by decide +kernel
theorem dX11_press_95 : decode cX11_press 95 = .ok (.invokevirtual 227, 3) := by decide +kernel
theorem dX11_press_98 : decode cX11_press 98 = .ok (.ireturn, 1) := by decide +kernel
theorem dX11_isBad_0 : decode cX11_isBad 0 = .ok (.aload_n 0, 1) := by decide +kernel
theorem dX11_isBad_1 : decode cX11_isBad 1 = .ok (.iload_n 1, 1) := by decide +kernel
theorem dX11_isBad_2 : decode cX11_isBad 2 = .ok (.putfield 230, 3) := by decide +kernel
theorem dX11_isBad_5 : decode cX11_isBad 5 = .ok (.aload_n 0, 1) := by decide +kernel
theorem dX11_isBad_6 : decode cX11_isBad 6 = .ok (.iload_n 2, 1) := by decide +kernel
theorem dX11_isBad_7 : decode cX11_isBad 7 = .ok (.putfield 233, 3) := by decide +kernel
theorem dX11_isBad_10 : decode cX11_isBad 10 = .ok (.iconst 0, 1) := by decide +kernel
theorem dX11_isBad_11 : decode cX11_isBad 11 = .ok (.ireturn, 1) := by decide +kernel
theorem dX11_byteOf_0 : decode cX11_byteOf 0 = .ok (.iload_n 1, 1) := by decide +kernel
theorem dX11_byteOf_1 : decode cX11_byteOf 1 = .ok (.aload_n 0, 1) := by decide +kernel
theorem dX11_byteOf_2 : decode cX11_byteOf 2 = .ok (.getfield 7, 3) := by decide +kernel
theorem dX11_byteOf_5 : decode cX11_byteOf 5 = .ok (.sipush 16507, 3) := by decide +kernel
theorem dX11_byteOf_8 : decode cX11_byteOf 8 = .ok (.iaload, 1) := by decide +kernel
theorem dX11_byteOf_9 : decode cX11_byteOf 9 = .ok (.if_icmp .ge 16, 3) := by decide +kernel
theorem dX11_byteOf_12 : decode cX11_byteOf 12 = .ok (.aload_n 0, 1) := by decide +kernel
theorem dX11_byteOf_13 : decode cX11_byteOf 13 = .ok (.getfield 7, 3) := by decide +kernel
theorem dX11_byteOf_16 : decode cX11_byteOf 16 = .ok (.sipush 16800, 3) := by decide +kernel
theorem dX11_byteOf_19 : decode cX11_byteOf 19 = .ok (.iload_n 1, 1) := by decide +kernel
