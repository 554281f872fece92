theorem dX6_setDigit_45 : decode cX6_setDigit 45 = .ok (.isub, 1) := by decide +kernel
theorem dX6_setDigit_46 : decode cX6_setDigit 46 = .ok (.iaload, 1) := by decide +kernel
theorem dX6_setDigit_47 : decode cX6_setDigit 47 = .ok (.invokestatic 55, 3) := by decide +kernel
theorem dX6_setDigit_50 : decode cX6_setDigit 50 = .ok (.ifCond .ne 14, 3) := by decide +kernel
theorem dX6_setDigit_53 : decode cX6_setDigit 53 = .ok (.aload_n 0, 1) := by decide +kernel
theorem dX6_setDigit_54 : decode cX6_setDigit 54 = .ok (.aload_n 3, 1) := by decide +kernel
theorem dX6_setDigit_55 : decode cX6_setDigit 55 = .ok (.getfield 88, 3) := by decide +kernel
theorem dX6_setDigit_58 : decode cX6_setDigit 58 = .ok (.iconst 1, 1) := by decide +kernel
theorem dX6_setDigit_59 : decode cX6_setDigit 59 = .ok (.iaload, 1) := by decide +kernel
theorem dX6_setDigit_60 : decode cX6_setDigit 60 = .ok (.iconst (-1), 1) := by decide +kernel
theorem dX6_setDigit_61 : decode cX6_setDigit 61 = .ok (.invokevirtual 51, 3) := by decide +kernel
theorem dX6_setDigit_64 : decode cX6_setDigit 64 = .ok (.aload_n 0, 1) := by decide +kernel
theorem dX6_setDigit_65 : decode cX6_setDigit 65 = .ok (.iload 4, 2) := by decide +kernel
theorem dX6_setDigit_67 : decode cX6_setDigit 67 = .ok (.aload_n 3, 1) := by decide +kernel
theorem dX6_setDigit_68 : decode cX6_setDigit 68 = .ok (.invokevirtual 91, 3) := by decide +kernel
theorem dX6_setDigit_71 : decode cX6_setDigit 71 = .ok (.iconst 1, 1) := by decide +kernel
theorem dX6_setDigit_72 : decode cX6_setDigit 72 = .ok (.ireturn, 1) := by decide +kernel
theorem dX6_setLetters_0 : decode cX6_setLetters 0 = .ok (.iload_n 3, 1) := by decide +kernel
theorem dX6_setLetters_1 : decode cX6_setLetters 1 = .ok (.aload_n 0, 1) := by decide +kernel
theorem dX6_setLetters_2 : decode cX6_setLetters 2 = .ok (.getfield 40, 3) := by decide +kernel
theorem dX6_setLetters_5 : decode cX6_setLetters 5 = .ok (.if_icmp .lt 18, 3) := by decide +kernel
theorem dX6_setLetters_8 : decode cX6_setLetters 8 = .ok (.aload_n 0, 1) := by decide +kernel
theorem dX6_setLetters_9 : decode cX6_setLetters 9 = .ok (.iload_n 3, 1) := by decide +kernel
theorem dX6_setLetters_10 : decode cX6_setLetters 10 = .ok (.putfield 37, 3) := by decide +kernel
theorem dX6_setLetters_13 : decode cX6_setLetters 13 = .ok (.aload_n 0, 1) := by decide +kernel
theorem dX6_setLetters_14 : decode cX6_setLetters 14 = .ok (.aload_n 1, 1) := by decide +kernel
theorem dX6_setLetters_15 : decode cX6_setLetters 15 = .ok (.iload_n 2, 1) := by decide +kernel
theorem dX6_setLetters_16 : decode cX6_setLetters 16 = .ok (.iload_n 3, 1) := by decide +kernel
theorem dX6_setLetters_17 : decode cX6_setLetters 17 = .ok (.invokestatic 95, 3) := by decide +kernel
theorem dX6_setLetters_20 : decode cX6_setLetters 20 = .ok (.putfield 40, 3) := by decide +kernel
theorem dX6_setLetters_23 : decode cX6_setLetters 23 = .ok (.aload 4, 2) := by decide +kernel
theorem dX6_setLetters_25 : decode cX6_setLetters 25 = .ok (.aload_n 1, 1) := by decide +kernel
theorem dX6_setLetters_26 : decode cX6_setLetters 26 = .ok (.aload_n 0, 1) := by decide +kernel
theorem dX6_setLetters_27 : decode cX6_setLetters 27 = .ok (.getfield 37, 3) := by decide +kernel
theorem dX6_setLetters_30 : decode cX6_setLetters 30 = .ok (.aload_n 0, 1) := by decide +kernel
theorem dX6_setLetters_31 : decode cX6_setLetters 31 = .ok (.getfield 40, 3) := by decide +kernel
theorem dX6_setLetters_34 : decode cX6_setLetters 34 = .ok (.iload_n 3, 1) := by decide +kernel
theorem dX6_setLetters_35 : decode cX6_setLetters 35 = .ok (.aload_n 0, 1) := by decide +kernel
theorem dX6_setLetters_36 : decode cX6_setLetters 36 = .ok (.getfield 28, 3) := by decide +kernel
theorem dX6_setLetters_39 : decode cX6_setLetters 39 = .ok (.invokevirtual 99, 3) := by decide +kernel
theorem dX6_setLetters_42 : decode cX6_setLetters 42 = .ok (.istore 5, 2) := by decide +kernel
theorem dX6_setLetters_44 : decode cX6_setLetters 44 = .ok (.iload 5, 2) := by decide +kernel
theorem dX6_setLetters_46 : decode cX6_setLetters 46 = .ok (.iconst (-1), 1) := by decide +kernel
theorem dX6_setLetters_47 : decode cX6_setLetters 47 = .ok (.if_icmp .ne 10, 3) := by decide +kernel
theorem dX6_setLetters_50 : decode cX6_setLetters 50 = .ok (.aload_n 0, 1) := by decide +kernel
theorem dX6_setLetters_51 : decode cX6_setLetters 51 = .ok (.iconst 3, 1) := by decide +kernel
theorem dX6_setLetters_52 : decode cX6_setLetters 52 = .ok (.iload_n 3, 1) := by decide +kernel
theorem dX6_setLetters_53 : decode cX6_setLetters 53 = .ok (.invokevirtual 69, 3) := by decide +kernel
theorem dX6_setLetters_56 : decode cX6_setLetters 56 = .ok (.ireturn, 1) := by decide +kernel
theorem dX6_setLetters_57 : decode cX6_setLetters 57 = .ok (.aload_n 1, 1) := by decide +kernel
theorem dX6_setLetters_58 : decode cX6_setLetters 58 = .ok (.iload_n 3, 1) := by decide +kernel
theorem dX6_setLetters_59 : decode cX6_setLetters 59 = .ok (.iaload, 1) := by decide +kernel
theorem dX6_setLetters_60 : decode cX6_setLetters 60 = .ok (.invokestatic 103, 3) := by decide +kernel
theorem dX6_setLetters_63 : decode cX6_setLetters 63 = .ok (.ifCond .eq 32, 3) := by decide +kernel
theorem dX6_setLetters_66 : decode cX6_setLetters 66 = .ok (.aload 4, 2) := by decide +kernel
theorem dX6_setLetters_68 : decode cX6_setLetters 68 = .ok (.getfield 88, 3) := by decide +kernel
theorem dX6_setLetters_71 : decode cX6_setLetters 71 = .ok (.iconst 0, 1) := by decide +kernel
theorem dX6_setLetters_72 : decode cX6_setLetters 72 = .ok (.iaload, 1) := by decide +kernel
theorem dX6_setLetters_73 : decode cX6_setLetters 73 = .ok (.ifCond .ne 10, 3) := by decide +kernel
theorem dX6_setLetters_76 : decode cX6_setLetters 76 = .ok (.aload_n 0, 1) := by decide +kernel
theorem dX6_setLetters_77 : decode cX6_setLetters 77 = .ok (.iconst 5, 1) := by decide +kernel
theorem dX6_setLetters_78 : decode cX6_setLetters 78 = .ok (.iload_n 3, 1) := by decide +kernel
theorem dX6_setLetters_79 : decode cX6_setLetters 79 = .ok (.invokevirtual 69, 3) := by decide +kernel
theorem dX6_setLetters_82 : decode cX6_setLetters 82 = .ok (.ireturn, 1) := by decide +kernel
theorem dX6_setLetters_83 : decode cX6_setLetters 83 = .ok (.aload_n 0, 1) := by decide +kernel
theorem dX6_setLetters_84 : decode cX6_setLetters 84 = .ok (.aload 4, 2) := by decide +kernel
theorem dX6_setLetters_86 : decode cX6_setLetters 86 = .ok (.getfield 88, 3) := by decide +kernel
theorem dX6_setLetters_89 : decode cX6_setLetters 89 = .ok (.iconst 0, 1) := by decide +kernel
theorem dX6_setLetters_90 : decode cX6_setLetters 90 = .ok (.iaload, 1) := by decide +kernel
theorem dX6_setLetters_91 : decode cX6_setLetters 91 = .ok (.iconst (-1), 1) := by decide +kernel
theorem dX6_setLetters_92 : decode cX6_setLetters 92 = .ok (.invokevirtual 51, 3) := by decide +kernel
theorem dX6_setLetters_95 : decode cX6_setLetters 95 = .ok (.aload_n 0, 1) := by decide +kernel
theorem dX6_setLetters_96 : decode cX6_setLetters 96 = .ok (.iload 5, 2) := by decide +kernel
theorem dX6_setLetters_98 : decode cX6_setLetters 98 = .ok (.aload 4, 2) := by decide +kernel
theorem dX6_setLetters_100 : decode cX6_setLetters 100 = .ok (.invokevirtual 91, 3) := by decide +kernel
theorem dX6_setLetters_103 : decode cX6_setLetters 103 = .ok (.aload_n 0, 1) := by decide +kernel
theorem dX6_setLetters_104 : decode cX6_setLetters 104 = .ok (.dup, 1) := by decide +kernel
theorem dX6_setLetters_105 : decode cX6_setLetters 105 = .ok (.getfield 25, 3) := by decide +kernel
theorem dX6_setLetters_108 : decode cX6_setLetters 108 = .ok (.aload 4, 2) := by decide +kernel
theorem dX6_setLetters_110 : decode cX6_setLetters 110 = .ok (.getfield 73, 3) := by decide +kernel
theorem dX6_setLetters_113 : decode cX6_setLetters 113 = .ok (.iload 5, 2) := by decide +kernel
theorem dX6_setLetters_115 : decode cX6_setLetters 115 = .ok (.iaload, 1) := by decide +kernel
theorem dX6_setLetters_116 : decode cX6_setLetters 116 = .ok (.iadd, 1) := by decide +kernel
theorem dX6_setLetters_117 : decode cX6_setLetters 117 = .ok (.putfield 25, 3) := by decide +kernel
theorem dX6_setLetters_120 : decode cX6_setLetters 120 = .ok (.aload 4, 2) := by decide +kernel
theorem dX6_setLetters_122 : decode cX6_setLetters 122 = .ok (.getfield 106, 3) := by decide +kernel
theorem dX6_setLetters_125 : decode cX6_setLetters 125 = .ok (.iload 5, 2) := by decide +kernel
theorem dX6_setLetters_127 : decode cX6_setLetters 127 = .ok (.iaload, 1) := by decide +kernel
theorem dX6_setLetters_128 : decode cX6_setLetters 128 = .ok (.ireturn, 1) := by decide +kernel
theorem dX6_usedInAll_0 : decode cX6_usedInAll 0 = .ok (.iconst 0, 1) := by decide +kernel
theorem dX6_usedInAll_1 : decode cX6_usedInAll 1 = .ok (.istore_n 1, 1) := by decide +kernel
theorem dX6_usedInAll_2 : decode cX6_usedInAll 2 = .ok (.iconst 0, 1) := by decide +kernel
theorem dX6_usedInAll_3 : decode cX6_usedInAll 3 = .ok (.istore_n 2, 1) := by decide +kernel
theorem dX6_usedInAll_4 : decode cX6_usedInAll 4 = .ok (.iload_n 2, 1) := by decide +kernel
theorem dX6_usedInAll_5 : decode cX6_usedInAll 5 = .ok (.bipush 24, 2) := by decide +kernel
theorem dX6_usedInAll_7 : decode cX6_usedInAll 7 = .ok (.if_icmp .ge 18, 3) := by decide +kernel
theorem dX6_usedInAll_10 : decode cX6_usedInAll 10 = .ok (.iload_n 1, 1) := by decide +kernel
theorem dX6_usedInAll_11 : decode cX6_usedInAll 11 = .ok (.aload_n 0, 1) := by decide +kernel
theorem dX6_usedInAll_12 : decode cX6_usedInAll 12 = .ok (.getfield 18, 3) := by decide +kernel
theorem dX6_usedInAll_15 : decode cX6_usedInAll 15 = .ok (.iload_n 2, 1) := by decide +kernel
theorem dX6_usedInAll_16 : decode cX6_usedInAll 16 = .ok (.iaload, 1) := by decide +kernel
theorem dX6_usedInAll_17 : decode cX6_usedInAll 17 = .ok (.iadd, 1) := by decide +kernel
theorem dX6_usedInAll_18 : decode cX6_usedInAll 18 = .ok (.istore_n 1, 1) := by decide +kernel
theorem dX6_usedInAll_19 : decode cX6_usedInAll 19 = .ok (.iinc 2 1, 3) := by decide +kernel
theorem dX6_usedInAll_22 : decode cX6_usedInAll 22 = .ok (.goto (-18), 3) := by decide +kernel
theorem dX6_usedInAll_25 : decode cX6_usedInAll 25 = .ok (.iload_n 1, 1) := by decide +kernel
theorem dX6_usedInAll_26 : decode cX6_usedInAll 26 = .ok (.ireturn, 1) := by decide +kernel
theorem dX6_dotsOf_0 : decode cX6_dotsOf 0 = .ok (.iconst 0, 1) := by decide +kernel
theorem dX6_dotsOf_1 : decode cX6_dotsOf 1 = .ok (.istore_n 3, 1) := by decide +kernel
theorem dX6_dotsOf_2 : decode cX6_dotsOf 2 = .ok (.iload_n 1, 1) := by decide +kernel
theorem dX6_dotsOf_3 : decode cX6_dotsOf 3 = .ok (.istore 4, 2) := by decide +kernel
theorem dX6_dotsOf_5 : decode cX6_dotsOf 5 = .ok (.iload 4, 2) := by decide +kernel
theorem dX6_dotsOf_7 : decode cX6_dotsOf 7 = .ok (.iload_n 2, 1) := by decide +kernel
theorem dX6_dotsOf_8 : decode cX6_dotsOf 8 = .ok (.if_icmp .ge 22, 3) := by decide +kernel
theorem dX6_dotsOf_11 : decode cX6_dotsOf 11 = .ok (.iload_n 3, 1) := by decide +kernel
theorem dX6_dotsOf_12 : decode cX6_dotsOf 12 = .ok (.aload_n 0, 1) := by decide +kernel
theorem dX6_dotsOf_13 : decode cX6_dotsOf 13 = .ok (.getfield 9, 3) := by decide +kernel
theorem dX6_dotsOf_16 : decode cX6_dotsOf 16 = .ok (.iload 4, 2) := by decide +kernel
theorem dX6_dotsOf_18 : decode cX6_dotsOf 18 = .ok (.iaload, 1) := by decide +kernel
theorem dX6_dotsOf_19 : decode cX6_dotsOf 19 = .ok (.invokestatic 109, 3) := by decide +kernel
theorem dX6_dotsOf_22 : decode cX6_dotsOf 22 = .ok (.iadd, 1) := by decide +kernel
theorem dX6_dotsOf_23 : decode cX6_dotsOf 23 = .ok (.istore_n 3, 1) := by decide +kernel
theorem dX6_dotsOf_24 : decode cX6_dotsOf 24 = .ok (.iinc 4 1, 3) := by decide +kernel
theorem dX6_dotsOf_27 : decode cX6_dotsOf 27 = .ok (.goto (-22), 3) := by decide +kernel
theorem dX6_dotsOf_30 : decode cX6_dotsOf 30 = .ok (.iload_n 3, 1) := by decide +kernel
theorem dX6_dotsOf_31 : decode cX6_dotsOf 31 = .ok (.ireturn, 1) := by decide +kernel
theorem dX6_densest_0 : decode cX6_densest 0 = .ok (.iload_n 1, 1) := by decide +kernel
theorem dX6_densest_1 : decode cX6_densest 1 = .ok (.aload_n 0, 1) := by decide +kernel
theorem dX6_densest_2 : decode cX6_densest 2 = .ok (.getfield 21, 3) := by decide +kernel
theorem dX6_densest_5 : decode cX6_densest 5 = .ok (.if_icmp .le 5, 3) := by decide +kernel
theorem dX6_densest_8 : decode cX6_densest 8 = .ok (.iconst (-1), 1) := by decide +kernel
theorem dX6_densest_9 : decode cX6_densest 9 = .ok (.ireturn, 1) := by decide +kernel
theorem dX6_densest_10 : decode cX6_densest 10 = .ok (.aload_n 0, 1) := by decide +kernel
theorem dX6_densest_11 : decode cX6_densest 11 = .ok (.iconst 0, 1) := by decide +kernel
theorem dX6_densest_12 : decode cX6_densest 12 = .ok (.iload_n 1, 1) := by decide +kernel
theorem dX6_densest_13 : decode cX6_densest 13 = .ok (.invokevirtual 114, 3) := by decide +kernel
theorem dX6_densest_16 : decode cX6_densest 16 = .ok (.istore_n 2, 1) := by decide +kernel
theorem dX6_densest_17 : decode cX6_densest 17 = .ok (.iload_n 2, 1) := by decide +kernel
theorem dX6_densest_18 : decode cX6_densest 18 = .ok (.istore_n 3, 1) := by decide +kernel
theorem dX6_densest_19 : decode cX6_densest 19 = .ok (.iload_n 1, 1) := by decide +kernel
theorem dX6_densest_20 : decode cX6_densest 20 = .ok (.istore 4, 2) := by decide +kernel
theorem dX6_densest_22 : decode cX6_densest 22 = .ok (.iload 4, 2) := by decide +kernel
theorem dX6_densest_24 : decode cX6_densest 24 = .ok (.aload_n 0, 1) := by decide +kernel
theorem dX6_densest_25 : decode cX6_densest 25 = .ok (.getfield 21, 3) := by decide +kernel
theorem dX6_densest_28 : decode cX6_densest 28 = .ok (.if_icmp .ge 41, 3) := by decide +kernel
theorem dX6_densest_31 : decode cX6_densest 31 = .ok (.iload_n 2, 1) := by decide +kernel
theorem dX6_densest_32 : decode cX6_densest 32 = .ok (.aload_n 0, 1) := by decide +kernel
theorem dX6_densest_33 : decode cX6_densest 33 = .ok (.getfield 9, 3) := by decide +kernel
theorem dX6_densest_36 : decode cX6_densest 36 = .ok (.iload 4, 2) := by decide +kernel
theorem dX6_densest_38 : decode cX6_densest 38 = .ok (.iaload, 1) := by decide +kernel
theorem dX6_densest_39 : decode cX6_densest 39 = .ok (.invokestatic 109, 3) := by decide +kernel
theorem dX6_densest_42 : decode cX6_densest 42 = .ok (.aload_n 0, 1) := by decide +kernel
theorem dX6_densest_43 : decode cX6_densest 43 = .ok (.getfield 9, 3) := by decide +kernel
theorem dX6_densest_46 : decode cX6_densest 46 = .ok (.iload 4, 2) := by decide +kernel
theorem dX6_densest_48 : decode cX6_densest 48 = .ok (.iload_n 1, 1) := by decide +kernel
theorem dX6_densest_49 : decode cX6_densest 49 = .ok (.isub, 1) := by decide +kernel
theorem dX6_densest_50 : decode cX6_densest 50 = .ok (.iaload, 1) := by decide +kernel
theorem dX6_densest_51 : decode cX6_densest 51 = .ok (.invokestatic 109, 3) := by decide +kernel
theorem dX6_densest_54 : decode cX6_densest 54 = .ok (.isub, 1) := by decide +kernel
theorem dX6_densest_55 : decode cX6_densest 55 = .ok (.iadd, 1) := by decide +kernel
theorem dX6_densest_56 : decode cX6_densest 56 = .ok (.istore_n 2, 1) := by decide +kernel
theorem dX6_densest_57 : decode cX6_densest 57 = .ok (.iload_n 3, 1) := by decide +kernel
theorem dX6_densest_58 : decode cX6_densest 58 = .ok (.iload_n 2, 1) := by decide +kernel
theorem dX6_densest_59 : decode cX6_densest 59 = .ok (.invokestatic 117, 3) := by decide +kernel
theorem dX6_densest_62 : decode cX6_densest 62 = .ok (.istore_n 3, 1) := by decide +kernel
theorem dX6_densest_63 : decode cX6_densest 63 = .ok (.iinc 4 1, 3) := by decide +kernel
theorem dX6_densest_66 : decode cX6_densest 66 = .ok (.goto (-44), 3) := by decide +kernel
theorem dX6_densest_69 : decode cX6_densest 69 = .ok (.iload_n 3, 1) := by decide +kernel
theorem dX6_densest_70 : decode cX6_densest 70 = .ok (.ireturn, 1) := by decide +kernel
theorem dX6_timesOf_0 : decode cX6_timesOf 0 = .ok (.iconst 0, 1) := by decide +kernel
theorem dX6_timesOf_1 : decode cX6_timesOf 1 = .ok (.istore_n 2, 1) := by decide +kernel
theorem dX6_timesOf_2 : decode cX6_timesOf 2 = .ok (.iconst 0, 1) := by decide +kernel
theorem dX6_timesOf_3 : decode cX6_timesOf 3 = .ok (.istore_n 3, 1) := by decide +kernel
theorem dX6_timesOf_4 : decode cX6_timesOf 4 = .ok (.iload_n 3, 1) := by decide +kernel
theorem dX6_timesOf_5 : decode cX6_timesOf 5 = .ok (.aload_n 0, 1) := by decide +kernel
theorem dX6_timesOf_6 : decode cX6_timesOf 6 = .ok (.getfield 21, 3) := by decide +kernel
theorem dX6_timesOf_9 : decode cX6_timesOf 9 = .ok (.if_icmp .ge 22, 3) := by decide +kernel
theorem dX6_timesOf_12 : decode cX6_timesOf 12 = .ok (.aload_n 0, 1) := by decide +kernel
theorem dX6_timesOf_13 : decode cX6_timesOf 13 = .ok (.getfield 9, 3) := by decide +kernel
theorem dX6_timesOf_16 : decode cX6_timesOf 16 = .ok (.iload_n 3, 1) := by decide +kernel
theorem dX6_timesOf_17 : decode cX6_timesOf 17 = .ok (.iaload, 1) := by decide +kernel
theorem dX6_timesOf_18 : decode cX6_timesOf 18 = .ok (.iload_n 1, 1) := by decide +kernel
theorem dX6_timesOf_19 : decode cX6_timesOf 19 = .ok (.if_icmp .ne 6, 3) := by decide +kernel
theorem dX6_timesOf_22 : decode cX6_timesOf 22 = .ok (.iinc 2 1, 3) := by decide +kernel
theorem dX6_timesOf_25 : decode cX6_timesOf 25 = .ok (.iinc 3 1, 3) := by decide +kernel
theorem dX6_timesOf_28 : decode cX6_timesOf 28 = .ok (.goto (-24), 3) := by decide +kernel
theorem dX6_timesOf_31 : decode cX6_timesOf 31 = .ok (.iload_n 2, 1) := by decide +kernel
theorem dX6_timesOf_32 : decode cX6_timesOf 32 = .ok (.ireturn, 1) := by decide +kernel
theorem dX7_init_0 : decode cX7_init 0 = .ok (.aload_n 0, 1) := by decide +kernel
theorem dX7_init_1 : decode cX7_init 1 = .ok (.invokespecial 3, 3) := by decide +kernel
theorem dX7_init_4 : decode cX7_init 4 = .ok (.aload_n 0, 1) := by decide +kernel
theorem dX7_init_5 : decode cX7_init 5 = .ok (.iconst 0, 1) := by decide +kernel
theorem dX7_init_6 : decode cX7_init 6 = .ok (.putfield 9, 3) := by decide +kernel
theorem dX7_init_9 : decode cX7_init 9 = .ok (.aload_n 0, 1) := by decide +kernel
theorem dX7_init_10 : decode cX7_init 10 = .ok (.iconst 0, 1) := by decide +kernel
theorem dX7_init_11 : decode cX7_init 11 = .ok (.putfield 15, 3) := by decide +kernel
theorem dX7_init_14 : decode cX7_init 14 = .ok (.aload_n 0, 1) := by decide +kernel
theorem dX7_init_15 : decode cX7_init 15 = .ok (.iconst 5, 1) := by decide +kernel
theorem dX7_init_16 : decode cX7_init 16 = .ok (.newarray .int, 2) := by decide +kernel
theorem dX7_init_18 : decode cX7_init 18 = .ok (.putfield 18, 3) := by decide +kernel
theorem dX7_init_21 : decode cX7_init 21 = .ok (.aload_n 0, 1) := by decide +kernel
theorem dX7_init_22 : decode cX7_init 22 = .ok (.bipush 24, 2) := by decide +kernel
theorem dX7_init_24 : decode cX7_init 24 = .ok (.newarray .int, 2) := by decide +kernel
theorem dX7_init_26 : decode cX7_init 26 = .ok (.putfield 22, 3) := by decide +kernel
theorem dX7_init_29 : decode cX7_init 29 = .ok (.aload_n 0, 1) := by decide +kernel
theorem dX7_init_30 : decode cX7_init 30 = .ok (.bipush 24, 2) := by decide +kernel
theorem dX7_init_32 : decode cX7_init 32 = .ok (.newarray .int, 2) := by decide +kernel
theorem dX7_init_34 : decode cX7_init 34 = .ok (.putfield 25, 3) := by decide +kernel
theorem dX7_init_37 : decode cX7_init 37 = .ok (.aload_n 0, 1) := by decide +kernel
theorem dX7_init_38 : decode cX7_init 38 = .ok (.bipush 24, 2) := by decide +kernel
theorem dX7_init_40 : decode cX7_init 40 = .ok (.newarray .int, 2) := by decide +kernel
theorem dX7_init_42 : decode cX7_init 42 = .ok (.putfield 28, 3) := by decide +kernel
theorem dX7_init_45 : decode cX7_init 45 = .ok (.aload_n 0, 1) := by decide +kernel
theorem dX7_init_46 : decode cX7_init 46 = .ok (.sipush 144, 3) := by decide +kernel
theorem dX7_init_49 : decode cX7_init 49 = .ok (.newarray .int, 2) := by decide +kernel
theorem dX7_init_51 : decode cX7_init 51 = .ok (.putfield 31, 3) := by decide +kernel
theorem dX7_init_54 : decode cX7_init 54 = .ok (.aload_n 0, 1) := by decide +kernel
theorem dX7_init_55 : decode cX7_init 55 = .ok (.bipush 72, 2) := by decide +kernel
theorem dX7_init_57 : decode cX7_init 57 = .ok (.newarray .int, 2) := by decide +kernel
theorem dX7_init_59 : decode cX7_init 59 = .ok (.putfield 34, 3) := by decide +kernel
theorem dX7_init_62 : decode cX7_init 62 = .ok (.aload_n 0, 1) := by decide +kernel
theorem dX7_init_63 : decode cX7_init 63 = .ok (.getfield 18, 3) := by decide +kernel
theorem dX7_init_66 : decode cX7_init 66 = .ok (.iconst 3, 1) := by decide +kernel
theorem dX7_init_67 : decode cX7_init 67 = .ok (.bipush 32, 2) := by decide +kernel
theorem dX7_init_69 : decode cX7_init 69 = .ok (.iastore, 1) := by decide +kernel
theorem dX7_init_70 : decode cX7_init 70 = .ok (.aload_n 0, 1) := by decide +kernel
theorem dX7_init_71 : decode cX7_init 71 = .ok (.getfield 18, 3) := by decide +kernel
theorem dX7_init_74 : decode cX7_init 74 = .ok (.iconst 4, 1) := by decide +kernel
theorem dX7_init_75 : decode cX7_init 75 = .ok (.bipush 25, 2) := by decide +kernel
theorem dX7_init_77 : decode cX7_init 77 = .ok (.iastore, 1) := by decide +kernel
theorem dX7_init_78 : decode cX7_init 78 = .ok (.return_, 1) := by decide +kernel
theorem dX7_empty_0 : decode cX7_empty 0 = .ok (.aload_n 0, 1) := by decide +kernel
theorem dX7_empty_1 : decode cX7_empty 1 = .ok (.iconst 0, 1) := by decide +kernel
theorem dX7_empty_2 : decode cX7_empty 2 = .ok (.putfield 9, 3) := by decide +kernel
theorem dX7_empty_5 : decode cX7_empty 5 = .ok (.aload_n 0, 1) := by decide +kernel
theorem dX7_empty_6 : decode cX7_empty 6 = .ok (.iconst 0, 1) := by decide +kernel
theorem dX7_empty_7 : decode cX7_empty 7 = .ok (.putfield 15, 3) := by decide +kernel
theorem dX7_empty_10 : decode cX7_empty 10 = .ok (.aload_n 0, 1) := by decide +kernel
theorem dX7_empty_11 : decode cX7_empty 11 = .ok (.getfield 18, 3) := by decide +kernel
theorem dX7_empty_14 : decode cX7_empty 14 = .ok (.iconst 0, 1) := by decide +kernel
theorem dX7_empty_15 : decode cX7_empty 15 = .ok (.iconst 0, 1) := by decide +kernel
theorem dX7_empty_16 : decode cX7_empty 16 = .ok (.iastore, 1) := by decide +kernel
theorem dX7_empty_17 : decode cX7_empty 17 = .ok (.aload_n 0, 1) := by decide +kernel
theorem dX7_empty_18 : decode cX7_empty 18 = .ok (.getfield 18, 3) := by decide +kernel
theorem dX7_empty_21 : decode cX7_empty 21 = .ok (.iconst 1, 1) := by decide +kernel
theorem dX7_empty_22 : decode cX7_empty 22 = .ok (.iconst 0, 1) := by decide +kernel
theorem dX7_empty_23 : decode cX7_empty 23 = .ok (.iastore, 1) := by decide +kernel
theorem dX7_empty_24 : decode cX7_empty 24 = .ok (.aload_n 0, 1) := by decide +kernel
theorem dX7_empty_25 : decode cX7_empty 25 = .ok (.getfield 18, 3) := by decide +kernel
theorem dX7_empty_28 : decode cX7_empty 28 = .ok (.iconst 2, 1) := by decide +kernel
theorem dX7_empty_29 : decode cX7_empty 29 = .ok (.iconst 0, 1) := by decide +kernel
theorem dX7_empty_30 : decode cX7_empty 30 = .ok (.iastore, 1) := by decide +kernel
theorem dX7_empty_31 : decode cX7_empty 31 = .ok (.aload_n 0, 1) := by decide +kernel
theorem dX7_empty_32 : decode cX7_empty 32 = .ok (.getfield 18, 3) := by decide +kernel
theorem dX7_empty_35 : decode cX7_empty 35 = .ok (.iconst 3, 1) := by decide +kernel
theorem dX7_empty_36 : decode cX7_empty 36 = .ok (.bipush 32, 2) := by decide +kernel
theorem dX7_empty_38 : decode cX7_empty 38 = .ok (.iastore, 1) := by decide +kernel
theorem dX7_empty_39 : decode cX7_empty 39 = .ok (.aload_n 0, 1) := by decide +kernel
theorem dX7_empty_40 : decode cX7_empty 40 = .ok (.getfield 18, 3) := by decide +kernel
theorem dX7_empty_43 : decode cX7_empty 43 = .ok (.iconst 4, 1) := by decide +kernel
theorem dX7_empty_44 : decode cX7_empty 44 = .ok (.bipush 25, 2) := by decide +kernel
theorem dX7_empty_46 : decode cX7_empty 46 = .ok (.iastore, 1) := by decide +kernel
theorem dX7_empty_47 : decode cX7_empty 47 = .ok (.return_, 1) := by decide +kernel
theorem dX7_copyOf_0 : decode cX7_copyOf 0 = .ok (.aload_n 0, 1) := by decide +kernel
theorem dX7_copyOf_1 : decode cX7_copyOf 1 = .ok (.aload_n 1, 1) := by decide +kernel
theorem dX7_copyOf_2 : decode cX7_copyOf 2 = .ok (.getfield 9, 3) := by decide +kernel
theorem dX7_copyOf_5 : decode cX7_copyOf 5 = .ok (.putfield 9, 3) := by decide +kernel
theorem dX7_copyOf_8 : decode cX7_copyOf 8 = .ok (.aload_n 0, 1) := by decide +kernel
theorem dX7_copyOf_9 : decode cX7_copyOf 9 = .ok (.aload_n 1, 1) := by decide +kernel
theorem dX7_copyOf_10 : decode cX7_copyOf 10 = .ok (.getfield 15, 3) := by decide +kernel
theorem dX7_copyOf_13 : decode cX7_copyOf 13 = .ok (.putfield 15, 3) := by decide +kernel
theorem dX7_copyOf_16 : decode cX7_copyOf 16 = .ok (.aload_n 1, 1) := by decide +kernel
theorem dX7_copyOf_17 : decode cX7_copyOf 17 = .ok (.getfield 18, 3) := by decide +kernel
theorem dX7_copyOf_20 : decode cX7_copyOf 20 = .ok (.iconst 0, 1) := by decide +kernel
theorem dX7_copyOf_21 : decode cX7_copyOf 21 = .ok (.aload_n 0, 1) := by decide +kernel
theorem dX7_copyOf_22 : decode cX7_copyOf 22 = .ok (.getfield 18, 3) := by decide +kernel
theorem dX7_copyOf_25 : decode cX7_copyOf 25 = .ok (.iconst 0, 1) := by decide +kernel
theorem dX7_copyOf_26 : decode cX7_copyOf 26 = .ok (.iconst 5, 1) := by decide +kernel
theorem dX7_copyOf_27 : decode cX7_copyOf 27 = .ok (.invokestatic 37, 3) := by decide +kernel
theorem dX7_copyOf_30 : decode cX7_copyOf 30 = .ok (.aload_n 1, 1) := by decide +kernel
theorem dX7_copyOf_31 : decode cX7_copyOf 31 = .ok (.getfield 22, 3) := by decide +kernel
theorem dX7_copyOf_34 : decode cX7_copyOf 34 = .ok (.iconst 0, 1) := by decide +kernel
theorem dX7_copyOf_35 : decode cX7_copyOf 35 = .ok (.aload_n 0, 1) := by decide +kernel
theorem dX7_copyOf_36 : decode cX7_copyOf 36 = .ok (.getfield 22, 3) := by decide +kernel
theorem dX7_copyOf_39 : decode cX7_copyOf 39 = .ok (.iconst 0, 1) := by decide +kernel
theorem dX7_copyOf_40 : decode cX7_copyOf 40 = .ok (.bipush 24, 2) := by decide +kernel
theorem dX7_copyOf_42 : decode cX7_copyOf 42 = .ok (.invokestatic 37, 3) := by decide +kernel
theorem dX7_copyOf_45 : decode cX7_copyOf 45 = .ok (.aload_n 1, 1) := by decide +kernel
theorem dX7_copyOf_46 : decode cX7_copyOf 46 = .ok (.getfield 25, 3) := by decide +kernel
theorem dX7_copyOf_49 : decode cX7_copyOf 49 = .ok (.iconst 0, 1) := by decide +kernel
theorem dX7_copyOf_50 : decode cX7_copyOf 50 = .ok (.aload_n 0, 1) := by decide +kernel
theorem dX7_copyOf_51 : decode cX7_copyOf 51 = .ok (.getfield 25, 3) := by decide +kernel
theorem dX7_copyOf_54 : decode cX7_copyOf 54 = .ok (.iconst 0, 1) := by decide +kernel
theorem dX7_copyOf_55 : decode cX7_copyOf 55 = .ok (.bipush 24, 2) := by decide +kernel
theorem dX7_copyOf_57 : decode cX7_copyOf 57 = .ok (.invokestatic 37, 3) := by decide +kernel
theorem dX7_copyOf_60 : decode cX7_copyOf 60 = .ok (.aload_n 1, 1) := by decide +kernel
theorem dX7_copyOf_61 : decode cX7_copyOf 61 = .ok (.getfield 28, 3) := by decide +kernel
theorem dX7_copyOf_64 : decode cX7_copyOf 64 = .ok (.iconst 0, 1) := by decide +kernel
theorem dX7_copyOf_65 : decode cX7_copyOf 65 = .ok (.aload_n 0, 1) := by decide +kernel
theorem dX7_copyOf_66 : decode cX7_copyOf 66 = .ok (.getfield 28, 3) := by decide +kernel
theorem dX7_copyOf_69 : decode cX7_copyOf 69 = .ok (.iconst 0, 1) := by decide +kernel
theorem dX7_copyOf_70 : decode cX7_copyOf 70 = .ok (.bipush 24, 2) := by decide +kernel
theorem dX7_copyOf_72 : decode cX7_copyOf 72 = .ok (.invokestatic 37, 3) := by decide +kernel
theorem dX7_copyOf_75 : decode cX7_copyOf 75 = .ok (.aload_n 1, 1) := by decide +kernel
theorem dX7_copyOf_76 : decode cX7_copyOf 76 = .ok (.getfield 31, 3) := by decide +kernel
theorem dX7_copyOf_79 : decode cX7_copyOf 79 = .ok (.iconst 0, 1) := by decide +kernel
theorem dX7_copyOf_80 : decode cX7_copyOf 80 = .ok (.aload_n 0, 1) := by decide +kernel
theorem dX7_copyOf_81 : decode cX7_copyOf 81 = .ok (.getfield 31, 3) := by decide +kernel
theorem dX7_copyOf_84 : decode cX7_copyOf 84 = .ok (.iconst 0, 1) := by decide +kernel
theorem dX7_copyOf_85 : decode cX7_copyOf 85 = .ok (.sipush 144, 3) := by decide +kernel
theorem dX7_copyOf_88 : decode cX7_copyOf 88 = .ok (.invokestatic 37, 3) := by decide +kernel
theorem dX7_copyOf_91 : decode cX7_copyOf 91 = .ok (.aload_n 1, 1) := by decide +kernel
theorem dX7_copyOf_92 : decode cX7_copyOf 92 = .ok (.getfield 34, 3) := by decide +kernel
theorem dX7_copyOf_95 : decode cX7_copyOf 95 = .ok (.iconst 0, 1) := by decide +kernel
theorem dX7_copyOf_96 : decode cX7_copyOf 96 = .ok (.aload_n 0, 1) := by decide +kernel
theorem dX7_copyOf_97 : decode cX7_copyOf 97 = .ok (.getfield 34, 3) := by decide +kernel
theorem dX7_copyOf_100 : decode cX7_copyOf 100 = .ok (.iconst 0, 1) := by decide +kernel
theorem dX7_copyOf_101 : decode cX7_copyOf 101 = .ok (.bipush 72, 2) := by decide +kernel
theorem dX7_copyOf_103 : decode cX7_copyOf 103 = .ok (.invokestatic 37, 3) := by decide +kernel
theorem dX7_copyOf_106 : decode cX7_copyOf 106 = .ok (.return_, 1) := by decide +kernel
theorem dX7_has_0 : decode cX7_has 0 = .ok (.iload_n 1, 1) := by decide +kernel
theorem dX7_has_1 : decode cX7_has 1 = .ok (.ifCond .lt 15, 3) := by decide +kernel
theorem dX7_has_4 : decode cX7_has 4 = .ok (.iload_n 1, 1) := by decide +kernel
theorem dX7_has_5 : decode cX7_has 5 = .ok (.aload_n 0, 1) := by decide +kernel
theorem dX7_has_6 : decode cX7_has 6 = .ok (.getfield 9, 3) := by decide +kernel
theorem dX7_has_9 : decode cX7_has 9 = .ok (.if_icmp .ge 7, 3) := by decide +kernel
theorem dX7_has_12 : decode cX7_has 12 = .ok (.iconst 1, 1) := by decide +kernel
theorem dX7_has_13 : decode cX7_has 13 = .ok (.goto 4, 3) := by decide +kernel
theorem dX7_has_16 : decode cX7_has 16 = .ok (.iconst 0, 1) := by decide +kernel
theorem dX7_has_17 : decode cX7_has 17 = .ok (.ireturn, 1) := by decide +kernel
theorem dX7_isThere_0 : decode cX7_isThere 0 = .ok (.iload_n 1, 1) := by decide +kernel
theorem dX7_isThere_1 : decode cX7_isThere 1 = .ok (.aload_n 0, 1) := by decide +kernel
theorem dX7_isThere_2 : decode cX7_isThere 2 = .ok (.getfield 15, 3) := by decide +kernel
theorem dX7_isThere_5 : decode cX7_isThere 5 = .ok (.invokestatic 43, 3) := by decide +kernel
theorem dX7_isThere_8 : decode cX7_isThere 8 = .ok (.ireturn, 1) := by decide +kernel
theorem dX7_isIn_0 : decode cX7_isIn 0 = .ok (.iload_n 1, 1) := by decide +kernel
theorem dX7_isIn_1 : decode cX7_isIn 1 = .ok (.iload_n 0, 1) := by decide +kernel
theorem dX7_isIn_2 : decode cX7_isIn 2 = .ok (.ishr, 1) := by decide +kernel
theorem dX7_isIn_3 : decode cX7_isIn 3 = .ok (.iconst 1, 1) := by decide +kernel
theorem dX7_isIn_4 : decode cX7_isIn 4 = .ok (.iand, 1) := by decide +kernel
theorem dX7_isIn_5 : decode cX7_isIn 5 = .ok (.ifCond .ne 7, 3) := by decide +kernel
theorem dX7_isIn_8 : decode cX7_isIn 8 = .ok (.iconst 1, 1) := by decide +kernel
theorem dX7_isIn_9 : decode cX7_isIn 9 = .ok (.goto 4, 3) := by decide +kernel
theorem dX7_isIn_12 : decode cX7_isIn 12 = .ok (.iconst 0, 1) := by decide +kernel
theorem dX7_isIn_13 : decode cX7_isIn 13 = .ok (.ireturn, 1) := by decide +kernel
theorem dX7_letterAt_0 : decode cX7_letterAt 0 = .ok (.aload_n 0, 1) := by decide +kernel
theorem dX7_letterAt_1 : decode cX7_letterAt 1 = .ok (.getfield 31, 3) := by decide +kernel
theorem dX7_letterAt_4 : decode cX7_letterAt 4 = .ok (.iload_n 1, 1) := by decide +kernel
theorem dX7_letterAt_5 : decode cX7_letterAt 5 = .ok (.bipush 6, 2) := by decide +kernel
theorem dX7_letterAt_7 : decode cX7_letterAt 7 = .ok (.imul, 1) := by decide +kernel
theorem dX7_letterAt_8 : decode cX7_letterAt 8 = .ok (.iload_n 2, 1) := by decide +kernel
theorem dX7_letterAt_9 : decode cX7_letterAt 9 = .ok (.iadd, 1) := by decide +kernel
theorem dX7_letterAt_10 : decode cX7_letterAt 10 = .ok (.iaload, 1) := by decide +kernel
theorem dX7_letterAt_11 : decode cX7_letterAt 11 = .ok (.ireturn, 1) := by decide +kernel
theorem dX7_cellAt_0 : decode cX7_cellAt 0 = .ok (.aload_n 0, 1) := by decide +kernel
theorem dX7_cellAt_1 : decode cX7_cellAt 1 = .ok (.getfield 34, 3) := by decide +kernel
theorem dX7_cellAt_4 : decode cX7_cellAt 4 = .ok (.iload_n 1, 1) := by decide +kernel
theorem dX7_cellAt_5 : decode cX7_cellAt 5 = .ok (.iconst 3, 1) := by decide +kernel
theorem dX7_cellAt_6 : decode cX7_cellAt 6 = .ok (.imul, 1) := by decide +kernel
theorem dX7_cellAt_7 : decode cX7_cellAt 7 = .ok (.iload_n 2, 1) := by decide +kernel
theorem dX7_cellAt_8 : decode cX7_cellAt 8 = .ok (.iadd, 1) := by decide +kernel
theorem dX7_cellAt_9 : decode cX7_cellAt 9 = .ok (.iaload, 1) := by decide +kernel
theorem dX7_cellAt_10 : decode cX7_cellAt 10 = .ok (.ireturn, 1) := by decide +kernel
theorem dX7_putLetter_0 : decode cX7_putLetter 0 = .ok (.aload_n 0, 1) := by decide +kernel
theorem dX7_putLetter_1 : decode cX7_putLetter 1 = .ok (.getfield 31, 3) := by decide +kernel
theorem dX7_putLetter_4 : decode cX7_putLetter 4 = .ok (.iload_n 1, 1) := by decide +kernel
theorem dX7_putLetter_5 : decode cX7_putLetter 5 = .ok (.bipush 6, 2) := by decide +kernel
theorem dX7_putLetter_7 : decode cX7_putLetter 7 = .ok (.imul, 1) := by decide +kernel
theorem dX7_putLetter_8 : decode cX7_putLetter 8 = .ok (.iload_n 2, 1) := by decide +kernel
theorem dX7_putLetter_9 : decode cX7_putLetter 9 = .ok (.iadd, 1) := by decide +kernel
theorem dX7_putLetter_10 : decode cX7_putLetter 10 = .ok (.iload_n 3, 1) := by decide +kernel
theorem dX7_putLetter_11 : decode cX7_putLetter 11 = .ok (.iastore, 1) := by decide +kernel
theorem dX7_putLetter_12 : decode cX7_putLetter 12 = .ok (.return_, 1) := by decide +kernel
theorem dX7_putCell_0 : decode cX7_putCell 0 = .ok (.aload_n 0, 1) := by decide +kernel
theorem dX7_putCell_1 : decode cX7_putCell 1 = .ok (.getfield 34, 3) := by decide +kernel
theorem dX7_putCell_4 : decode cX7_putCell 4 = .ok (.iload_n 1, 1) := by decide +kernel
theorem dX7_putCell_5 : decode cX7_putCell 5 = .ok (.iconst 3, 1) := by decide +kernel
theorem dX7_putCell_6 : decode cX7_putCell 6 = .ok (.imul, 1) := by decide +kernel
theorem dX7_putCell_7 : decode cX7_putCell 7 = .ok (.iload_n 2, 1) := by decide +kernel
theorem dX7_putCell_8 : decode cX7_putCell 8 = .ok (.iadd, 1) := by decide +kernel
theorem dX7_putCell_9 : decode cX7_putCell 9 = .ok (.iload_n 3, 1) := by decide +kernel
theorem dX7_putCell_10 : decode cX7_putCell 10 = .ok (.iastore, 1) := by decide +kernel
theorem dX7_putCell_11 : decode cX7_putCell 11 = .ok (.return_, 1) := by decide +kernel
theorem dX7_isSameRule_0 : decode cX7_isSameRule 0 = .ok (.aload_n 0, 1) := by decide +kernel
theorem dX7_isSameRule_1 : decode cX7_isSameRule 1 = .ok (.getfield 22, 3) := by decide +kernel
theorem dX7_isSameRule_4 : decode cX7_isSameRule 4 = .ok (.iload_n 1, 1) := by decide +kernel
theorem dX7_isSameRule_5 : decode cX7_isSameRule 5 = .ok (.iaload, 1) := by decide +kernel
theorem dX7_isSameRule_6 : decode cX7_isSameRule 6 = .ok (.aload_n 0, 1) := by decide +kernel
theorem dX7_isSameRule_7 : decode cX7_isSameRule 7 = .ok (.getfield 22, 3) := by decide +kernel
theorem dX7_isSameRule_10 : decode cX7_isSameRule 10 = .ok (.iload_n 2, 1) := by decide +kernel
theorem dX7_isSameRule_11 : decode cX7_isSameRule 11 = .ok (.iaload, 1) := by decide +kernel
theorem dX7_isSameRule_12 : decode cX7_isSameRule 12 = .ok (.if_icmp .ne 18, 3) := by decide +kernel
theorem dX7_isSameRule_15 : decode cX7_isSameRule 15 = .ok (.aload_n 0, 1) := by decide +kernel
theorem dX7_isSameRule_16 : decode cX7_isSameRule 16 = .ok (.getfield 28, 3) := by decide +kernel
theorem dX7_isSameRule_19 : decode cX7_isSameRule 19 = .ok (.iload_n 1, 1) := by decide +kernel
theorem dX7_isSameRule_20 : decode cX7_isSameRule 20 = .ok (.iaload, 1) := by decide +kernel
theorem dX7_isSameRule_21 : decode cX7_isSameRule 21 = .ok (.aload_n 0, 1) := by decide +kernel
theorem dX7_isSameRule_22 : decode cX7_isSameRule 22 = .ok (.getfield 28, 3) := by decide +kernel
theorem dX7_isSameRule_25 : decode cX7_isSameRule 25 = .ok (.iload_n 2, 1) := by decide +kernel
theorem dX7_isSameRule_26 : decode cX7_isSameRule 26 = .ok (.iaload, 1) := by decide +kernel
theorem dX7_isSameRule_27 : decode cX7_isSameRule 27 = .ok (.if_icmp .eq 5, 3) := by decide +kernel
theorem dX7_isSameRule_30 : decode cX7_isSameRule 30 = .ok (.iconst 0, 1) := by decide +kernel
theorem dX7_isSameRule_31 : decode cX7_isSameRule 31 = .ok (.ireturn, 1) := by decide +kernel
theorem dX7_isSameRule_32 : decode cX7_isSameRule 32 = .ok (.iconst 0, 1) := by decide +kernel
theorem dX7_isSameRule_33 : decode cX7_isSameRule 33 = .ok (.istore_n 3, 1) := by decide +kernel
theorem dX7_isSameRule_34 : decode cX7_isSameRule 34 = .ok (.iload_n 3, 1) := by decide +kernel
theorem dX7_isSameRule_35 : decode cX7_isSameRule 35 = .ok (.aload_n 0, 1) := by decide +kernel
theorem dX7_isSameRule_36 : decode cX7_isSameRule 36 = .ok (.getfield 22, 3) := by decide +kernel
theorem dX7_isSameRule_39 : decode cX7_isSameRule 39 = .ok (.iload_n 1, 1) := by decide +kernel
theorem dX7_isSameRule_40 : decode cX7_isSameRule 40 = .ok (.iaload, 1) := by decide +kernel
theorem dX7_isSameRule_41 : decode cX7_isSameRule 41 = .ok (.if_icmp .ge 26, 3) := by decide +kernel
theorem dX7_isSameRule_44 : decode cX7_isSameRule 44 = .ok (.aload_n 0, 1) := by decide +kernel
theorem dX7_isSameRule_45 : decode cX7_isSameRule 45 = .ok (.iload_n 1, 1) := by decide +kernel
theorem dX7_isSameRule_46 : decode cX7_isSameRule 46 = .ok (.iload_n 3, 1) := by decide +kernel
theorem dX7_isSameRule_47 : decode cX7_isSameRule 47 = .ok (.invokevirtual 47, 3) := by decide +kernel
theorem dX7_isSameRule_50 : decode cX7_isSameRule 50 = .ok (.aload_n 0, 1) := by decide +kernel
theorem dX7_isSameRule_51 : decode cX7_isSameRule 51 = .ok (.iload_n 2, 1) := by decide +kernel
theorem dX7_isSameRule_52 : decode cX7_isSameRule 52 = .ok (.iload_n 3, 1) := by decide +kernel
theorem dX7_isSameRule_53 : decode cX7_isSameRule 53 = .ok (.invokevirtual 47, 3) := by decide +kernel
theorem dX7_isSameRule_56 : decode cX7_isSameRule 56 = .ok (.if_icmp .eq 5, 3) := by decide +kernel
theorem dX7_isSameRule_59 : decode cX7_isSameRule 59 = .ok (.iconst 0, 1) := by decide +kernel
theorem dX7_isSameRule_60 : decode cX7_isSameRule 60 = .ok (.ireturn, 1) := by decide +kernel
theorem dX7_isSameRule_61 : decode cX7_isSameRule 61 = .ok (.iinc 3 1, 3) := by decide +kernel
theorem dX7_isSameRule_64 : decode cX7_isSameRule 64 = .ok (.goto (-30), 3) := by decide +kernel
theorem dX7_isSameRule_67 : decode cX7_isSameRule 67 = .ok (.iconst 1, 1) := by decide +kernel
theorem dX7_isSameRule_68 : decode cX7_isSameRule 68 = .ok (.ireturn, 1) := by decide +kernel
theorem dX7_condHolds_0 : decode cX7_condHolds 0 = .ok (.aload_n 0, 1) := by decide +kernel
theorem dX7_condHolds_1 : decode cX7_condHolds 1 = .ok (.getfield 28, 3) := by decide +kernel
theorem dX7_condHolds_4 : decode cX7_condHolds 4 = .ok (.iload_n 1, 1) := by decide +kernel
theorem dX7_condHolds_5 : decode cX7_condHolds 5 = .ok (.iaload, 1) := by decide +kernel
theorem dX7_condHolds_6 : decode cX7_condHolds 6 = .ok (.tableswitch 86 1 4 #[30, 44, 58, 72], 30) := by decide +kernel
theorem dX7_condHolds_36 : decode cX7_condHolds 36 = .ok (.iload_n 2, 1) := by decide +kernel
theorem dX7_condHolds_37 : decode cX7_condHolds 37 = .ok (.ifCond .eq 11, 3) := by decide +kernel
theorem dX7_condHolds_40 : decode cX7_condHolds 40 = .ok (.iload_n 3, 1) := by decide +kernel
theorem dX7_condHolds_41 : decode cX7_condHolds 41 = .ok (.ifCond .ne 7, 3) := by decide +kernel
theorem dX7_condHolds_44 : decode cX7_condHolds 44 = .ok (.iconst 1, 1) := by decide +kernel
theorem dX7_condHolds_45 : decode cX7_condHolds 45 = .ok (.goto 4, 3) := by decide +kernel
theorem dX7_condHolds_48 : decode cX7_condHolds 48 = .ok (.iconst 0, 1) := by decide +kernel
theorem dX7_condHolds_49 : decode cX7_condHolds 49 = .ok (.ireturn, 1) := by decide +kernel
theorem dX7_condHolds_50 : decode cX7_condHolds 50 = .ok (.iload_n 2, 1) := by decide +kernel
theorem dX7_condHolds_51 : decode cX7_condHolds 51 = .ok (.ifCond .ne 11, 3) := by decide +kernel
theorem dX7_condHolds_54 : decode cX7_condHolds 54 = .ok (.iload_n 3, 1) := by decide +kernel
theorem dX7_condHolds_55 : decode cX7_condHolds 55 = .ok (.ifCond .ne 7, 3) := by decide +kernel
theorem dX7_condHolds_58 : decode cX7_condHolds 58 = .ok (.iconst 1, 1) := by decide +kernel
theorem dX7_condHolds_59 : decode cX7_condHolds 59 = .ok (.goto 4, 3) := by decide +kernel
theorem dX7_condHolds_62 : decode cX7_condHolds 62 = .ok (.iconst 0, 1) := by decide +kernel
theorem dX7_condHolds_63 : decode cX7_condHolds 63 = .ok (.ireturn, 1) := by decide +kernel
theorem dX7_condHolds_64 : decode cX7_condHolds 64 = .ok (.iload_n 2, 1) := by decide +kernel
theorem dX7_condHolds_65 : decode cX7_condHolds 65 = .ok (.ifCond .ne 11, 3) := by decide +kernel
theorem dX7_condHolds_68 : decode cX7_condHolds 68 = .ok (.iload_n 3, 1) := by decide +kernel
theorem dX7_condHolds_69 : decode cX7_condHolds 69 = .ok (.ifCond .eq 7, 3) := by decide +kernel
theorem dX7_condHolds_72 : decode cX7_condHolds 72 = .ok (.iconst 1, 1) := by decide +kernel
theorem dX7_condHolds_73 : decode cX7_condHolds 73 = .ok (.goto 4, 3) := by decide +kernel
theorem dX7_condHolds_76 : decode cX7_condHolds 76 = .ok (.iconst 0, 1) := by decide +kernel
theorem dX7_condHolds_77 : decode cX7_condHolds 77 = .ok (.ireturn, 1) := by decide +kernel
theorem dX7_condHolds_78 : decode cX7_condHolds 78 = .ok (.iload_n 2, 1) := by decide +kernel
theorem dX7_condHolds_79 : decode cX7_condHolds 79 = .ok (.ifCond .eq 11, 3) := by decide +kernel
theorem dX7_condHolds_82 : decode cX7_condHolds 82 = .ok (.iload_n 3, 1) := by decide +kernel
theorem dX7_condHolds_83 : decode cX7_condHolds 83 = .ok (.ifCond .eq 7, 3) := by decide +kernel
theorem dX7_condHolds_86 : decode cX7_condHolds 86 = .ok (.iconst 1, 1) := by decide +kernel
theorem dX7_condHolds_87 : decode cX7_condHolds 87 = .ok (.goto 4, 3) := by decide +kernel
theorem dX7_condHolds_90 : decode cX7_condHolds 90 = .ok (.iconst 0, 1) := by decide +kernel
theorem dX7_condHolds_91 : decode cX7_condHolds 91 = .ok (.ireturn, 1) := by decide +kernel
theorem dX7_condHolds_92 : decode cX7_condHolds 92 = .ok (.iconst 1, 1) := by decide +kernel
theorem dX7_condHolds_93 : decode cX7_condHolds 93 = .ok (.ireturn, 1) := by decide +kernel
theorem dX7_mayStand_0 : decode cX7_mayStand 0 = .ok (.iload 5, 2) := by decide +kernel
theorem dX7_mayStand_2 : decode cX7_mayStand 2 = .ok (.aload_n 0, 1) := by decide +kernel
theorem dX7_mayStand_3 : decode cX7_mayStand 3 = .ok (.getfield 22, 3) := by decide +kernel
theorem dX7_mayStand_6 : decode cX7_mayStand 6 = .ok (.iload_n 1, 1) := by decide +kernel
theorem dX7_mayStand_7 : decode cX7_mayStand 7 = .ok (.iaload, 1) := by decide +kernel
theorem dX7_mayStand_8 : decode cX7_mayStand 8 = .ok (.iadd, 1) := by decide +kernel
theorem dX7_mayStand_9 : decode cX7_mayStand 9 = .ok (.istore 6, 2) := by decide +kernel
theorem dX7_mayStand_11 : decode cX7_mayStand 11 = .ok (.iload 6, 2) := by decide +kernel
theorem dX7_mayStand_13 : decode cX7_mayStand 13 = .ok (.iload 4, 2) := by decide +kernel
theorem dX7_mayStand_15 : decode cX7_mayStand 15 = .ok (.if_icmp .gt 19, 3) := by decide +kernel
theorem dX7_mayStand_18 : decode cX7_mayStand 18 = .ok (.aload_n 2, 1) := by decide +kernel
theorem dX7_mayStand_19 : decode cX7_mayStand 19 = .ok (.iload 5, 2) := by decide +kernel
theorem dX7_mayStand_21 : decode cX7_mayStand 21 = .ok (.iaload, 1) := by decide +kernel
theorem dX7_mayStand_22 : decode cX7_mayStand 22 = .ok (.invokestatic 51, 3) := by decide +kernel
theorem dX7_mayStand_25 : decode cX7_mayStand 25 = .ok (.aload_n 0, 1) := by decide +kernel
theorem dX7_mayStand_26 : decode cX7_mayStand 26 = .ok (.iload_n 1, 1) := by decide +kernel
theorem dX7_mayStand_27 : decode cX7_mayStand 27 = .ok (.iconst 0, 1) := by decide +kernel
theorem dX7_mayStand_28 : decode cX7_mayStand 28 = .ok (.invokevirtual 47, 3) := by decide +kernel
theorem dX7_mayStand_31 : decode cX7_mayStand 31 = .ok (.if_icmp .eq 5, 3) := by decide +kernel
theorem dX7_mayStand_34 : decode cX7_mayStand 34 = .ok (.iconst 0, 1) := by decide +kernel
theorem dX7_mayStand_35 : decode cX7_mayStand 35 = .ok (.ireturn, 1) := by decide +kernel
theorem dX7_mayStand_36 : decode cX7_mayStand 36 = .ok (.iload 5, 2) := by decide +kernel
theorem dX7_mayStand_38 : decode cX7_mayStand 38 = .ok (.iconst 1, 1) := by decide +kernel
theorem dX7_mayStand_39 : decode cX7_mayStand 39 = .ok (.iadd, 1) := by decide +kernel
theorem dX7_mayStand_40 : decode cX7_mayStand 40 = .ok (.istore 7, 2) := by decide +kernel
theorem dX7_mayStand_42 : decode cX7_mayStand 42 = .ok (.iload 7, 2) := by decide +kernel
theorem dX7_mayStand_44 : decode cX7_mayStand 44 = .ok (.iload 6, 2) := by decide +kernel
theorem dX7_mayStand_46 : decode cX7_mayStand 46 = .ok (.if_icmp .ge 41, 3) := by decide +kernel
theorem dX7_mayStand_49 : decode cX7_mayStand 49 = .ok (.aload_n 2, 1) := by decide +kernel
theorem dX7_mayStand_50 : decode cX7_mayStand 50 = .ok (.iload 7, 2) := by decide +kernel
theorem dX7_mayStand_52 : decode cX7_mayStand 52 = .ok (.iaload, 1) := by decide +kernel
theorem dX7_mayStand_53 : decode cX7_mayStand 53 = .ok (.invokestatic 55, 3) := by decide +kernel
theorem dX7_mayStand_56 : decode cX7_mayStand 56 = .ok (.ifCond .ne 23, 3) := by decide +kernel
theorem dX7_mayStand_59 : decode cX7_mayStand 59 = .ok (.aload_n 2, 1) := by decide +kernel
theorem dX7_mayStand_60 : decode cX7_mayStand 60 = .ok (.iload 7, 2) := by decide +kernel
theorem dX7_mayStand_62 : decode cX7_mayStand 62 = .ok (.iaload, 1) := by decide +kernel
theorem dX7_mayStand_63 : decode cX7_mayStand 63 = .ok (.invokestatic 51, 3) := by decide +kernel
theorem dX7_mayStand_66 : decode cX7_mayStand 66 = .ok (.aload_n 0, 1) := by decide +kernel
theorem dX7_mayStand_67 : decode cX7_mayStand 67 = .ok (.iload_n 1, 1) := by decide +kernel
theorem dX7_mayStand_68 : decode cX7_mayStand 68 = .ok (.iload 7, 2) := by decide +kernel
theorem dX7_mayStand_70 : decode cX7_mayStand 70 = .ok (.iload 5, 2) := by decide +kernel
theorem dX7_mayStand_72 : decode cX7_mayStand 72 = .ok (.isub, 1) := by decide +kernel
theorem dX7_mayStand_73 : decode cX7_mayStand 73 = .ok (.invokevirtual 47, 3) := by decide +kernel
theorem dX7_mayStand_76 : decode cX7_mayStand 76 = .ok (.if_icmp .eq 5, 3) := by decide +kernel
theorem dX7_mayStand_79 : decode cX7_mayStand 79 = .ok (.iconst 0, 1) := by decide +kernel
theorem dX7_mayStand_80 : decode cX7_mayStand 80 = .ok (.ireturn, 1) := by decide +kernel
theorem dX7_mayStand_81 : decode cX7_mayStand 81 = .ok (.iinc 7 1, 3) := by decide +kernel
theorem dX7_mayStand_84 : decode cX7_mayStand 84 = .ok (.goto (-42), 3) := by decide +kernel
theorem dX7_mayStand_87 : decode cX7_mayStand 87 = .ok (.aload_n 0, 1) := by decide +kernel
theorem dX7_mayStand_88 : decode cX7_mayStand 88 = .ok (.iload_n 1, 1) := by decide +kernel
theorem dX7_mayStand_89 : decode cX7_mayStand 89 = .ok (.iload 5, 2) := by decide +kernel
theorem dX7_mayStand_91 : decode cX7_mayStand 91 = .ok (.iload_n 3, 1) := by decide +kernel
theorem dX7_mayStand_92 : decode cX7_mayStand 92 = .ok (.if_icmp .ne 7, 3) := by decide +kernel
theorem dX7_mayStand_95 : decode cX7_mayStand 95 = .ok (.iconst 1, 1) := by decide +kernel
theorem dX7_mayStand_96 : decode cX7_mayStand 96 = .ok (.goto 4, 3) := by decide +kernel
theorem dX7_mayStand_99 : decode cX7_mayStand 99 = .ok (.iconst 0, 1) := by decide +kernel
theorem dX7_mayStand_100 : decode cX7_mayStand 100 = .ok (.iload 6, 2) := by decide +kernel
theorem dX7_mayStand_102 : decode cX7_mayStand 102 = .ok (.iload 4, 2) := by decide +kernel
theorem dX7_mayStand_104 : decode cX7_mayStand 104 = .ok (.if_icmp .ne 7, 3) := by decide +kernel
theorem dX7_mayStand_107 : decode cX7_mayStand 107 = .ok (.iconst 1, 1) := by decide +kernel
theorem dX7_mayStand_108 : decode cX7_mayStand 108 = .ok (.goto 4, 3) := by decide +kernel
theorem dX7_mayStand_111 : decode cX7_mayStand 111 = .ok (.iconst 0, 1) := by decide +kernel
theorem dX7_mayStand_112 : decode cX7_mayStand 112 = .ok (.invokevirtual 59, 3) := by decide +kernel
theorem dX7_mayStand_115 : decode cX7_mayStand 115 = .ok (.ireturn, 1) := by decide +kernel
theorem dX7_longestRule_0 : decode cX7_longestRule 0 = .ok (.iconst (-1), 1) := by decide +kernel
theorem dX7_longestRule_1 : decode cX7_longestRule 1 = .ok (.istore 6, 2) := by decide +kernel
theorem dX7_longestRule_3 : decode cX7_longestRule 3 = .ok (.iconst 0, 1) := by decide +kernel
theorem dX7_longestRule_4 : decode cX7_longestRule 4 = .ok (.istore 7, 2) := by decide +kernel
theorem dX7_longestRule_6 : decode cX7_longestRule 6 = .ok (.iconst 0, 1) := by decide +kernel
theorem dX7_longestRule_7 : decode cX7_longestRule 7 = .ok (.istore 8, 2) := by decide +kernel
theorem dX7_longestRule_9 : decode cX7_longestRule 9 = .ok (.iload 8, 2) := by decide +kernel
theorem dX7_longestRule_11 : decode cX7_longestRule 11 = .ok (.aload_n 0, 1) := by decide +kernel
theorem dX7_longestRule_12 : decode cX7_longestRule 12 = .ok (.getfield 9, 3) := by decide +kernel
theorem dX7_longestRule_15 : decode cX7_longestRule 15 = .ok (.if_icmp .ge 70, 3) := by decide +kernel
theorem dX7_longestRule_18 : decode cX7_longestRule 18 = .ok (.aload_n 0, 1) := by decide +kernel
theorem dX7_longestRule_19 : decode cX7_longestRule 19 = .ok (.getfield 22, 3) := by decide +kernel
theorem dX7_longestRule_22 : decode cX7_longestRule 22 = .ok (.iload 8, 2) := by decide +kernel
theorem dX7_longestRule_24 : decode cX7_longestRule 24 = .ok (.iaload, 1) := by decide +kernel
theorem dX7_longestRule_25 : decode cX7_longestRule 25 = .ok (.iload 7, 2) := by decide +kernel
theorem dX7_longestRule_27 : decode cX7_longestRule 27 = .ok (.if_icmp .le 17, 3) := by decide +kernel
theorem dX7_longestRule_30 : decode cX7_longestRule 30 = .ok (.iload 8, 2) := by decide +kernel
theorem dX7_longestRule_32 : decode cX7_longestRule 32 = .ok (.iload 5, 2) := by decide +kernel
theorem dX7_longestRule_34 : decode cX7_longestRule 34 = .ok (.invokestatic 43, 3) := by decide +kernel
theorem dX7_longestRule_37 : decode cX7_longestRule 37 = .ok (.ifCond .eq 7, 3) := by decide +kernel
theorem dX7_longestRule_40 : decode cX7_longestRule 40 = .ok (.iconst 1, 1) := by decide +kernel
theorem dX7_longestRule_41 : decode cX7_longestRule 41 = .ok (.goto 4, 3) := by decide +kernel
theorem dX7_longestRule_44 : decode cX7_longestRule 44 = .ok (.iconst 0, 1) := by decide +kernel
theorem dX7_longestRule_45 : decode cX7_longestRule 45 = .ok (.istore 9, 2) := by decide +kernel
theorem dX7_longestRule_47 : decode cX7_longestRule 47 = .ok (.iload 9, 2) := by decide +kernel
theorem dX7_longestRule_49 : decode cX7_longestRule 49 = .ok (.ifCond .eq 30, 3) := by decide +kernel
theorem dX7_longestRule_52 : decode cX7_longestRule 52 = .ok (.aload_n 0, 1) := by decide +kernel
theorem dX7_longestRule_53 : decode cX7_longestRule 53 = .ok (.iload 8, 2) := by decide +kernel
theorem dX7_longestRule_55 : decode cX7_longestRule 55 = .ok (.aload_n 1, 1) := by decide +kernel
theorem dX7_longestRule_56 : decode cX7_longestRule 56 = .ok (.iload_n 2, 1) := by decide +kernel
theorem dX7_longestRule_57 : decode cX7_longestRule 57 = .ok (.iload_n 3, 1) := by decide +kernel
theorem dX7_longestRule_58 : decode cX7_longestRule 58 = .ok (.iload 4, 2) := by decide +kernel
theorem dX7_longestRule_60 : decode cX7_longestRule 60 = .ok (.invokevirtual 63, 3) := by decide +kernel
theorem dX7_longestRule_63 : decode cX7_longestRule 63 = .ok (.ifCond .eq 16, 3) := by decide +kernel
theorem dX7_longestRule_66 : decode cX7_longestRule 66 = .ok (.iload 8, 2) := by decide +kernel
theorem dX7_longestRule_68 : decode cX7_longestRule 68 = .ok (.istore 6, 2) := by decide +kernel
theorem dX7_longestRule_70 : decode cX7_longestRule 70 = .ok (.aload_n 0, 1) := by decide +kernel
theorem dX7_longestRule_71 : decode cX7_longestRule 71 = .ok (.getfield 22, 3) := by decide +kernel
theorem dX7_longestRule_74 : decode cX7_longestRule 74 = .ok (.iload 8, 2) := by decide +kernel
theorem dX7_longestRule_76 : decode cX7_longestRule 76 = .ok (.iaload, 1) := by decide +kernel
theorem dX7_longestRule_77 : decode cX7_longestRule 77 = .ok (.istore 7, 2) := by decide +kernel
theorem dX7_longestRule_79 : decode cX7_longestRule 79 = .ok (.iinc 8 1, 3) := by decide +kernel
theorem dX7_longestRule_82 : decode cX7_longestRule 82 = .ok (.goto (-73), 3) := by decide +kernel
theorem dX7_longestRule_85 : decode cX7_longestRule 85 = .ok (.iload 6, 2) := by decide +kernel
theorem dX7_longestRule_87 : decode cX7_longestRule 87 = .ok (.ireturn, 1) := by decide +kernel
theorem dX7_plainRule_0 : decode cX7_plainRule 0 = .ok (.iconst 0, 1) := by decide +kernel
theorem dX7_plainRule_1 : decode cX7_plainRule 1 = .ok (.istore_n 3, 1) := by decide +kernel
theorem dX7_plainRule_2 : decode cX7_plainRule 2 = .ok (.iload_n 3, 1) := by decide +kernel
theorem dX7_plainRule_3 : decode cX7_plainRule 3 = .ok (.aload_n 0, 1) := by decide +kernel
theorem dX7_plainRule_4 : decode cX7_plainRule 4 = .ok (.getfield 9, 3) := by decide +kernel
theorem dX7_plainRule_7 : decode cX7_plainRule 7 = .ok (.if_icmp .ge 60, 3) := by decide +kernel
theorem dX7_plainRule_10 : decode cX7_plainRule 10 = .ok (.aload_n 0, 1) := by decide +kernel
theorem dX7_plainRule_11 : decode cX7_plainRule 11 = .ok (.getfield 22, 3) := by decide +kernel
theorem dX7_plainRule_14 : decode cX7_plainRule 14 = .ok (.iload_n 3, 1) := by decide +kernel
theorem dX7_plainRule_15 : decode cX7_plainRule 15 = .ok (.iaload, 1) := by decide +kernel
theorem dX7_plainRule_16 : decode cX7_plainRule 16 = .ok (.iconst 1, 1) := by decide +kernel
theorem dX7_plainRule_17 : decode cX7_plainRule 17 = .ok (.if_icmp .ne 26, 3) := by decide +kernel
theorem dX7_plainRule_20 : decode cX7_plainRule 20 = .ok (.aload_n 0, 1) := by decide +kernel
theorem dX7_plainRule_21 : decode cX7_plainRule 21 = .ok (.getfield 28, 3) := by decide +kernel
theorem dX7_plainRule_24 : decode cX7_plainRule 24 = .ok (.iload_n 3, 1) := by decide +kernel
theorem dX7_plainRule_25 : decode cX7_plainRule 25 = .ok (.iaload, 1) := by decide +kernel
theorem dX7_plainRule_26 : decode cX7_plainRule 26 = .ok (.ifCond .ne 17, 3) := by decide +kernel
theorem dX7_plainRule_29 : decode cX7_plainRule 29 = .ok (.aload_n 0, 1) := by decide +kernel
theorem dX7_plainRule_30 : decode cX7_plainRule 30 = .ok (.iload_n 3, 1) := by decide +kernel
theorem dX7_plainRule_31 : decode cX7_plainRule 31 = .ok (.iconst 0, 1) := by decide +kernel
theorem dX7_plainRule_32 : decode cX7_plainRule 32 = .ok (.invokevirtual 47, 3) := by decide +kernel
theorem dX7_plainRule_35 : decode cX7_plainRule 35 = .ok (.iload_n 1, 1) := by decide +kernel
theorem dX7_plainRule_36 : decode cX7_plainRule 36 = .ok (.if_icmp .ne 7, 3) := by decide +kernel
theorem dX7_plainRule_39 : decode cX7_plainRule 39 = .ok (.iconst 1, 1) := by decide +kernel
theorem dX7_plainRule_40 : decode cX7_plainRule 40 = .ok (.goto 4, 3) := by decide +kernel
theorem dX7_plainRule_43 : decode cX7_plainRule 43 = .ok (.iconst 0, 1) := by decide +kernel
theorem dX7_plainRule_44 : decode cX7_plainRule 44 = .ok (.istore 4, 2) := by decide +kernel
theorem dX7_plainRule_46 : decode cX7_plainRule 46 = .ok (.iload 4, 2) := by decide +kernel
theorem dX7_plainRule_48 : decode cX7_plainRule 48 = .ok (.ifCond .eq 13, 3) := by decide +kernel
theorem dX7_plainRule_51 : decode cX7_plainRule 51 = .ok (.iload_n 3, 1) := by decide +kernel
theorem dX7_plainRule_52 : decode cX7_plainRule 52 = .ok (.iload_n 2, 1) := by decide +kernel
theorem dX7_plainRule_53 : decode cX7_plainRule 53 = .ok (.invokestatic 43, 3) := by decide +kernel
theorem dX7_plainRule_56 : decode cX7_plainRule 56 = .ok (.ifCond .eq 5, 3) := by decide +kernel
theorem dX7_plainRule_59 : decode cX7_plainRule 59 = .ok (.iload_n 3, 1) := by decide +kernel
theorem dX7_plainRule_60 : decode cX7_plainRule 60 = .ok (.ireturn, 1) := by decide +kernel
theorem dX7_plainRule_61 : decode cX7_plainRule 61 = .ok (.iinc 3 1, 3) := by decide +kernel
theorem dX7_plainRule_64 : decode cX7_plainRule 64 = .ok (.goto (-62), 3) := by decide +kernel
theorem dX7_plainRule_67 : decode cX7_plainRule 67 = .ok (.iconst (-1), 1) := by decide +kernel
theorem dX7_plainRule_68 : decode cX7_plainRule 68 = .ok (.ireturn, 1) := by decide +kernel
theorem dX7_begins_0 : decode cX7_begins 0 = .ok (.aload_n 0, 1) := by decide +kernel
theorem dX7_begins_1 : decode cX7_begins 1 = .ok (.getfield 25, 3) := by decide +kernel
theorem dX7_begins_4 : decode cX7_begins 4 = .ok (.iload_n 1, 1) := by decide +kernel
theorem dX7_begins_5 : decode cX7_begins 5 = .ok (.iaload, 1) := by decide +kernel
theorem dX7_begins_6 : decode cX7_begins 6 = .ok (.aload_n 0, 1) := by decide +kernel
theorem dX7_begins_7 : decode cX7_begins 7 = .ok (.getfield 25, 3) := by decide +kernel
theorem dX7_begins_10 : decode cX7_begins 10 = .ok (.iload_n 2, 1) := by decide +kernel
theorem dX7_begins_11 : decode cX7_begins 11 = .ok (.iaload, 1) := by decide +kernel
theorem dX7_begins_12 : decode cX7_begins 12 = .ok (.if_icmp .gt 24, 3) := by decide +kernel
theorem dX7_begins_15 : decode cX7_begins 15 = .ok (.aload_n 0, 1) := by decide +kernel
theorem dX7_begins_16 : decode cX7_begins 16 = .ok (.iload_n 1, 1) := by decide +kernel
theorem dX7_begins_17 : decode cX7_begins 17 = .ok (.iconst 0, 1) := by decide +kernel
theorem dX7_begins_18 : decode cX7_begins 18 = .ok (.iload_n 2, 1) := by decide +kernel
theorem dX7_begins_19 : decode cX7_begins 19 = .ok (.iconst 0, 1) := by decide +kernel
theorem dX7_begins_20 : decode cX7_begins 20 = .ok (.aload_n 0, 1) := by decide +kernel
theorem dX7_begins_21 : decode cX7_begins 21 = .ok (.getfield 25, 3) := by decide +kernel
theorem dX7_begins_24 : decode cX7_begins 24 = .ok (.iload_n 1, 1) := by decide +kernel
theorem dX7_begins_25 : decode cX7_begins 25 = .ok (.iaload, 1) := by decide +kernel
theorem dX7_begins_26 : decode cX7_begins 26 = .ok (.invokevirtual 67, 3) := by decide +kernel
theorem dX7_begins_29 : decode cX7_begins 29 = .ok (.ifCond .eq 7, 3) := by decide +kernel
theorem dX7_begins_32 : decode cX7_begins 32 = .ok (.iconst 1, 1) := by decide +kernel
theorem dX7_begins_33 : decode cX7_begins 33 = .ok (.goto 4, 3) := by decide +kernel
theorem dX7_begins_36 : decode cX7_begins 36 = .ok (.iconst 0, 1) := by decide +kernel
theorem dX7_begins_37 : decode cX7_begins 37 = .ok (.ireturn, 1) := by decide +kernel
theorem dX7_areAlike_0 : decode cX7_areAlike 0 = .ok (.iconst 0, 1) := by decide +kernel
theorem dX7_areAlike_1 : decode cX7_areAlike 1 = .ok (.istore 6, 2) := by decide +kernel
theorem dX7_areAlike_3 : decode cX7_areAlike 3 = .ok (.iload 6, 2) := by decide +kernel
theorem dX7_areAlike_5 : decode cX7_areAlike 5 = .ok (.iload 5, 2) := by decide +kernel
theorem dX7_areAlike_7 : decode cX7_areAlike 7 = .ok (.if_icmp .ge 33, 3) := by decide +kernel
theorem dX7_areAlike_10 : decode cX7_areAlike 10 = .ok (.aload_n 0, 1) := by decide +kernel
theorem dX7_areAlike_11 : decode cX7_areAlike 11 = .ok (.iload_n 1, 1) := by decide +kernel
theorem dX7_areAlike_12 : decode cX7_areAlike 12 = .ok (.iload_n 2, 1) := by decide +kernel
theorem dX7_areAlike_13 : decode cX7_areAlike 13 = .ok (.iload 6, 2) := by decide +kernel
theorem dX7_areAlike_15 : decode cX7_areAlike 15 = .ok (.iadd, 1) := by decide +kernel
theorem dX7_areAlike_16 : decode cX7_areAlike 16 = .ok (.invokevirtual 71, 3) := by decide +kernel
theorem dX7_areAlike_19 : decode cX7_areAlike 19 = .ok (.aload_n 0, 1) := by decide +kernel
theorem dX7_areAlike_20 : decode cX7_areAlike 20 = .ok (.iload_n 3, 1) := by decide +kernel
theorem dX7_areAlike_21 : decode cX7_areAlike 21 = .ok (.iload 4, 2) := by decide +kernel
theorem dX7_areAlike_23 : decode cX7_areAlike 23 = .ok (.iload 6, 2) := by decide +kernel
theorem dX7_areAlike_25 : decode cX7_areAlike 25 = .ok (.iadd, 1) := by decide +kernel
theorem dX7_areAlike_26 : decode cX7_areAlike 26 = .ok (.invokevirtual 71, 3) := by decide +kernel
theorem dX7_areAlike_29 : decode cX7_areAlike 29 = .ok (.if_icmp .eq 5, 3) := by decide +kernel
theorem dX7_areAlike_32 : decode cX7_areAlike 32 = .ok (.iconst 0, 1) := by decide +kernel
theorem dX7_areAlike_33 : decode cX7_areAlike 33 = .ok (.ireturn, 1) := by decide +kernel
theorem dX7_areAlike_34 : decode cX7_areAlike 34 = .ok (.iinc 6 1, 3) := by decide +kernel
theorem dX7_areAlike_37 : decode cX7_areAlike 37 = .ok (.goto (-34), 3) := by decide +kernel
theorem dX7_areAlike_40 : decode cX7_areAlike 40 = .ok (.iconst 1, 1) := by decide +kernel
theorem dX7_areAlike_41 : decode cX7_areAlike 41 = .ok (.ireturn, 1) := by decide +kernel
theorem dX7_areMirrors_0 : decode cX7_areMirrors 0 = .ok (.aload_n 0, 1) := by decide +kernel
theorem dX7_areMirrors_1 : decode cX7_areMirrors 1 = .ok (.getfield 25, 3) := by decide +kernel
theorem dX7_areMirrors_4 : decode cX7_areMirrors 4 = .ok (.iload_n 1, 1) := by decide +kernel
theorem dX7_areMirrors_5 : decode cX7_areMirrors 5 = .ok (.iaload, 1) := by decide +kernel
theorem dX7_areMirrors_6 : decode cX7_areMirrors 6 = .ok (.aload_n 0, 1) := by decide +kernel
theorem dX7_areMirrors_7 : decode cX7_areMirrors 7 = .ok (.getfield 25, 3) := by decide +kernel
theorem dX7_areMirrors_10 : decode cX7_areMirrors 10 = .ok (.iload_n 2, 1) := by decide +kernel
theorem dX7_areMirrors_11 : decode cX7_areMirrors 11 = .ok (.iaload, 1) := by decide +kernel
theorem dX7_areMirrors_12 : decode cX7_areMirrors 12 = .ok (.if_icmp .eq 5, 3) := by decide +kernel
theorem dX7_areMirrors_15 : decode cX7_areMirrors 15 = .ok (.iconst 0, 1) := by decide +kernel
theorem dX7_areMirrors_16 : decode cX7_areMirrors 16 = .ok (.ireturn, 1) := by decide +kernel
theorem dX7_areMirrors_17 : decode cX7_areMirrors 17 = .ok (.iconst 0, 1) := by decide +kernel
theorem dX7_areMirrors_18 : decode cX7_areMirrors 18 = .ok (.istore_n 3, 1) := by decide +kernel
theorem dX7_areMirrors_19 : decode cX7_areMirrors 19 = .ok (.iload_n 3, 1) := by decide +kernel
theorem dX7_areMirrors_20 : decode cX7_areMirrors 20 = .ok (.aload_n 0, 1) := by decide +kernel
theorem dX7_areMirrors_21 : decode cX7_areMirrors 21 = .ok (.getfield 25, 3) := by decide +kernel
theorem dX7_areMirrors_24 : decode cX7_areMirrors 24 = .ok (.iload_n 1, 1) := by decide +kernel
theorem dX7_areMirrors_25 : decode cX7_areMirrors 25 = .ok (.iaload, 1) := by decide +kernel
theorem dX7_areMirrors_26 : decode cX7_areMirrors 26 = .ok (.if_icmp .ge 29, 3) := by decide +kernel
theorem dX7_areMirrors_29 : decode cX7_areMirrors 29 = .ok (.aload_n 0, 1) := by decide +kernel
theorem dX7_areMirrors_30 : decode cX7_areMirrors 30 = .ok (.iload_n 1, 1) := by decide +kernel
theorem dX7_areMirrors_31 : decode cX7_areMirrors 31 = .ok (.iload_n 3, 1) := by decide +kernel
theorem dX7_areMirrors_32 : decode cX7_areMirrors 32 = .ok (.invokevirtual 71, 3) := by decide +kernel
theorem dX7_areMirrors_35 : decode cX7_areMirrors 35 = .ok (.invokestatic 74, 3) := by decide +kernel
theorem dX7_areMirrors_38 : decode cX7_areMirrors 38 = .ok (.aload_n 0, 1) := by decide +kernel
theorem dX7_areMirrors_39 : decode cX7_areMirrors 39 = .ok (.iload_n 2, 1) := by decide +kernel
theorem dX7_areMirrors_40 : decode cX7_areMirrors 40 = .ok (.iload_n 3, 1) := by decide +kernel
theorem dX7_areMirrors_41 : decode cX7_areMirrors 41 = .ok (.invokevirtual 71, 3) := by decide +kernel
theorem dX7_areMirrors_44 : decode cX7_areMirrors 44 = .ok (.if_icmp .eq 5, 3) := by decide +kernel
theorem dX7_areMirrors_47 : decode cX7_areMirrors 47 = .ok (.iconst 0, 1) := by decide +kernel
theorem dX7_areMirrors_48 : decode cX7_areMirrors 48 = .ok (.ireturn, 1) := by decide +kernel
theorem dX7_areMirrors_49 : decode cX7_areMirrors 49 = .ok (.iinc 3 1, 3) := by decide +kernel
theorem dX7_areMirrors_52 : decode cX7_areMirrors 52 = .ok (.goto (-33), 3) := by decide +kernel
theorem dX7_areMirrors_55 : decode cX7_areMirrors 55 = .ok (.iconst 1, 1) := by decide +kernel
theorem dX7_areMirrors_56 : decode cX7_areMirrors 56 = .ok (.ireturn, 1) := by decide +kernel
theorem dX7_unlikeDots_0 : decode cX7_unlikeDots 0 = .ok (.iconst 0, 1) := by decide +kernel
theorem dX7_unlikeDots_1 : decode cX7_unlikeDots 1 = .ok (.istore_n 3, 1) := by decide +kernel
theorem dX7_unlikeDots_2 : decode cX7_unlikeDots 2 = .ok (.iconst 0, 1) := by decide +kernel
theorem dX7_unlikeDots_3 : decode cX7_unlikeDots 3 = .ok (.istore 4, 2) := by decide +kernel
theorem dX7_unlikeDots_5 : decode cX7_unlikeDots 5 = .ok (.iload 4, 2) := by decide +kernel
theorem dX7_unlikeDots_7 : decode cX7_unlikeDots 7 = .ok (.aload_n 0, 1) := by decide +kernel
theorem dX7_unlikeDots_8 : decode cX7_unlikeDots 8 = .ok (.getfield 25, 3) := by decide +kernel
theorem dX7_unlikeDots_11 : decode cX7_unlikeDots 11 = .ok (.iload_n 1, 1) := by decide +kernel
theorem dX7_unlikeDots_12 : decode cX7_unlikeDots 12 = .ok (.iaload, 1) := by decide +kernel
theorem dX7_unlikeDots_13 : decode cX7_unlikeDots 13 = .ok (.if_icmp .ge 30, 3) := by decide +kernel
theorem dX7_unlikeDots_16 : decode cX7_unlikeDots 16 = .ok (.iload_n 3, 1) := by decide +kernel
theorem dX7_unlikeDots_17 : decode cX7_unlikeDots 17 = .ok (.aload_n 0, 1) := by decide +kernel
theorem dX7_unlikeDots_18 : decode cX7_unlikeDots 18 = .ok (.iload_n 1, 1) := by decide +kernel
theorem dX7_unlikeDots_19 : decode cX7_unlikeDots 19 = .ok (.iload 4, 2) := by decide +kernel
theorem dX7_unlikeDots_21 : decode cX7_unlikeDots 21 = .ok (.invokevirtual 71, 3) := by decide +kernel
theorem dX7_unlikeDots_24 : decode cX7_unlikeDots 24 = .ok (.aload_n 0, 1) := by decide +kernel
theorem dX7_unlikeDots_25 : decode cX7_unlikeDots 25 = .ok (.iload_n 2, 1) := by decide +kernel
theorem dX7_unlikeDots_26 : decode cX7_unlikeDots 26 = .ok (.iload 4, 2) := by decide +kernel
theorem dX7_unlikeDots_28 : decode cX7_unlikeDots 28 = .ok (.invokevirtual 71, 3) := by decide +kernel
theorem dX7_unlikeDots_31 : decode cX7_unlikeDots 31 = .ok (.ixor, 1) := by decide +kernel
theorem dX7_unlikeDots_32 : decode cX7_unlikeDots 32 = .ok (.invokestatic 77, 3) := by decide +kernel
theorem dX7_unlikeDots_35 : decode cX7_unlikeDots 35 = .ok (.iadd, 1) := by decide +kernel
theorem dX7_unlikeDots_36 : decode cX7_unlikeDots 36 = .ok (.istore_n 3, 1) := by decide +kernel
theorem dX7_unlikeDots_37 : decode cX7_unlikeDots 37 = .ok (.iinc 4 1, 3) := by decide +kernel
theorem dX7_unlikeDots_40 : decode cX7_unlikeDots 40 = .ok (.goto (-35), 3) := by decide +kernel
theorem dX7_unlikeDots_43 : decode cX7_unlikeDots 43 = .ok (.iload_n 3, 1) := by decide +kernel
theorem dX7_unlikeDots_44 : decode cX7_unlikeDots 44 = .ok (.ireturn, 1) := by decide +kernel
theorem dX7_twinCouples_0 : decode cX7_twinCouples 0 = .ok (.iconst 0, 1) := by decide +kernel
theorem dX7_twinCouples_1 : decode cX7_twinCouples 1 = .ok (.istore_n 1, 1) := by decide +kernel
theorem dX7_twinCouples_2 : decode cX7_twinCouples 2 = .ok (.iconst 0, 1) := by decide +kernel
theorem dX7_twinCouples_3 : decode cX7_twinCouples 3 = .ok (.istore_n 2, 1) := by decide +kernel
theorem dX7_twinCouples_4 : decode cX7_twinCouples 4 = .ok (.iload_n 2, 1) := by decide +kernel
theorem dX7_twinCouples_5 : decode cX7_twinCouples 5 = .ok (.aload_n 0, 1) := by decide +kernel
theorem dX7_twinCouples_6 : decode cX7_twinCouples 6 = .ok (.getfield 9, 3) := by decide +kernel
theorem dX7_twinCouples_9 : decode cX7_twinCouples 9 = .ok (.if_icmp .ge 76, 3) := by decide +kernel
theorem dX7_twinCouples_12 : decode cX7_twinCouples 12 = .ok (.iload_n 2, 1) := by decide +kernel
theorem dX7_twinCouples_13 : decode cX7_twinCouples 13 = .ok (.iconst 1, 1) := by decide +kernel
theorem dX7_twinCouples_14 : decode cX7_twinCouples 14 = .ok (.iadd, 1) := by decide +kernel
theorem dX7_twinCouples_15 : decode cX7_twinCouples 15 = .ok (.istore_n 3, 1) := by decide +kernel
theorem dX7_twinCouples_16 : decode cX7_twinCouples 16 = .ok (.iload_n 3, 1) := by decide +kernel
theorem dX7_twinCouples_17 : decode cX7_twinCouples 17 = .ok (.aload_n 0, 1) := by decide +kernel
theorem dX7_twinCouples_18 : decode cX7_twinCouples 18 = .ok (.getfield 9, 3) := by decide +kernel
theorem dX7_twinCouples_21 : decode cX7_twinCouples 21 = .ok (.if_icmp .ge 58, 3) := by decide +kernel
theorem dX7_twinCouples_24 : decode cX7_twinCouples 24 = .ok (.aload_n 0, 1) := by decide +kernel
theorem dX7_twinCouples_25 : decode cX7_twinCouples 25 = .ok (.iload_n 2, 1) := by decide +kernel
theorem dX7_twinCouples_26 : decode cX7_twinCouples 26 = .ok (.invokevirtual 82, 3) := by decide +kernel
theorem dX7_twinCouples_29 : decode cX7_twinCouples 29 = .ok (.ifCond .eq 15, 3) := by decide +kernel
theorem dX7_twinCouples_32 : decode cX7_twinCouples 32 = .ok (.aload_n 0, 1) := by decide +kernel
theorem dX7_twinCouples_33 : decode cX7_twinCouples 33 = .ok (.iload_n 3, 1) := by decide +kernel
theorem dX7_twinCouples_34 : decode cX7_twinCouples 34 = .ok (.invokevirtual 82, 3) := by decide +kernel
theorem dX7_twinCouples_37 : decode cX7_twinCouples 37 = .ok (.ifCond .eq 7, 3) := by decide +kernel
theorem dX7_twinCouples_40 : decode cX7_twinCouples 40 = .ok (.iconst 1, 1) := by decide +kernel
theorem dX7_twinCouples_41 : decode cX7_twinCouples 41 = .ok (.goto 4, 3) := by decide +kernel
theorem dX7_twinCouples_44 : decode cX7_twinCouples 44 = .ok (.iconst 0, 1) := by decide +kernel
theorem dX7_twinCouples_45 : decode cX7_twinCouples 45 = .ok (.istore 4, 2) := by decide +kernel
theorem dX7_twinCouples_47 : decode cX7_twinCouples 47 = .ok (.iload 4, 2) := by decide +kernel
theorem dX7_twinCouples_49 : decode cX7_twinCouples 49 = .ok (.ifCond .eq 24, 3) := by decide +kernel
theorem dX7_twinCouples_52 : decode cX7_twinCouples 52 = .ok (.aload_n 0, 1) := by decide +kernel
theorem dX7_twinCouples_53 : decode cX7_twinCouples 53 = .ok (.iload_n 2, 1) := by decide +kernel
theorem dX7_twinCouples_54 : decode cX7_twinCouples 54 = .ok (.iload_n 3, 1) := by decide +kernel
theorem dX7_twinCouples_55 : decode cX7_twinCouples 55 = .ok (.invokevirtual 85, 3) := by decide +kernel
theorem dX7_twinCouples_58 : decode cX7_twinCouples 58 = .ok (.ifCond .eq 15, 3) := by decide +kernel
theorem dX7_twinCouples_61 : decode cX7_twinCouples 61 = .ok (.aload_n 0, 1) := by decide +kernel
theorem dX7_twinCouples_62 : decode cX7_twinCouples 62 = .ok (.iload_n 3, 1) := by decide +kernel
theorem dX7_twinCouples_63 : decode cX7_twinCouples 63 = .ok (.iload_n 2, 1) := by decide +kernel
theorem dX7_twinCouples_64 : decode cX7_twinCouples 64 = .ok (.invokevirtual 85, 3) := by decide +kernel
theorem dX7_twinCouples_67 : decode cX7_twinCouples 67 = .ok (.ifCond .eq 6, 3) := by decide +kernel
theorem dX7_twinCouples_70 : decode cX7_twinCouples 70 = .ok (.iinc 1 1, 3) := by decide +kernel
theorem dX7_twinCouples_73 : decode cX7_twinCouples 73 = .ok (.iinc 3 1, 3) := by decide +kernel
theorem dX7_twinCouples_76 : decode cX7_twinCouples 76 = .ok (.goto (-60), 3) := by decide +kernel
theorem dX7_twinCouples_79 : decode cX7_twinCouples 79 = .ok (.iinc 2 1, 3) := by decide +kernel
theorem dX7_twinCouples_82 : decode cX7_twinCouples 82 = .ok (.goto (-78), 3) := by decide +kernel
theorem dX7_twinCouples_85 : decode cX7_twinCouples 85 = .ok (.iload_n 1, 1) := by decide +kernel
theorem dX7_twinCouples_86 : decode cX7_twinCouples 86 = .ok (.ireturn, 1) := by decide +kernel
theorem dX7_clashingCouples_0 : decode cX7_clashingCouples 0 = .ok (.iconst 0, 1) := by decide +kernel
theorem dX7_clashingCouples_1 : decode cX7_clashingCouples 1 = .ok (.istore_n 1, 1) := by decide +kernel
theorem dX7_clashingCouples_2 : decode cX7_clashingCouples 2 = .ok (.iconst 0, 1) := by decide +kernel
theorem dX7_clashingCouples_3 : decode cX7_clashingCouples 3 = .ok (.istore_n 2, 1) := by decide +kernel
theorem dX7_clashingCouples_4 : decode cX7_clashingCouples 4 = .ok (.iload_n 2, 1) := by decide +kernel
theorem dX7_clashingCouples_5 : decode cX7_clashingCouples 5 = .ok (.aload_n 0, 1) := by decide +kernel
theorem dX7_clashingCouples_6 : decode cX7_clashingCouples 6 = .ok (.getfield 9, 3) := by decide +kernel
theorem dX7_clashingCouples_9 : decode cX7_clashingCouples 9 = .ok (.if_icmp .ge 58, 3) := by decide +kernel
theorem dX7_clashingCouples_12 : decode cX7_clashingCouples 12 = .ok (.iconst 0, 1) := by decide +kernel
theorem dX7_clashingCouples_13 : decode cX7_clashingCouples 13 = .ok (.istore_n 3, 1) := by decide +kernel
theorem dX7_clashingCouples_14 : decode cX7_clashingCouples 14 = .ok (.iload_n 3, 1) := by decide +kernel
theorem dX7_clashingCouples_15 : decode cX7_clashingCouples 15 = .ok (.aload_n 0, 1) := by decide +kernel
theorem dX7_clashingCouples_16 : decode cX7_clashingCouples 16 = .ok (.getfield 9, 3) := by decide +kernel
theorem dX7_clashingCouples_19 : decode cX7_clashingCouples 19 = .ok (.if_icmp .ge 42, 3) := by decide +kernel
theorem dX7_clashingCouples_22 : decode cX7_clashingCouples 22 = .ok (.iload_n 2, 1) := by decide +kernel
theorem dX7_clashingCouples_23 : decode cX7_clashingCouples 23 = .ok (.iload_n 3, 1) := by decide +kernel
theorem dX7_clashingCouples_24 : decode cX7_clashingCouples 24 = .ok (.if_icmp .eq 31, 3) := by decide +kernel
theorem dX7_clashingCouples_27 : decode cX7_clashingCouples 27 = .ok (.aload_n 0, 1) := by decide +kernel
theorem dX7_clashingCouples_28 : decode cX7_clashingCouples 28 = .ok (.iload_n 2, 1) := by decide +kernel
theorem dX7_clashingCouples_29 : decode cX7_clashingCouples 29 = .ok (.invokevirtual 82, 3) := by decide +kernel
theorem dX7_clashingCouples_32 : decode cX7_clashingCouples 32 = .ok (.ifCond .eq 23, 3) := by decide +kernel
theorem dX7_clashingCouples_35 : decode cX7_clashingCouples 35 = .ok (.aload_n 0, 1) := by decide +kernel
theorem dX7_clashingCouples_36 : decode cX7_clashingCouples 36 = .ok (.iload_n 3, 1) := by decide +kernel
theorem dX7_clashingCouples_37 : decode cX7_clashingCouples 37 = .ok (.invokevirtual 82, 3) := by decide +kernel
theorem dX7_clashingCouples_40 : decode cX7_clashingCouples 40 = .ok (.ifCond .eq 15, 3) := by decide +kernel
theorem dX7_clashingCouples_43 : decode cX7_clashingCouples 43 = .ok (.aload_n 0, 1) := by decide +kernel
theorem dX7_clashingCouples_44 : decode cX7_clashingCouples 44 = .ok (.iload_n 2, 1) := by decide +kernel
theorem dX7_clashingCouples_45 : decode cX7_clashingCouples 45 = .ok (.iload_n 3, 1) := by decide +kernel
theorem dX7_clashingCouples_46 : decode cX7_clashingCouples 46 = .ok (.invokevirtual 85, 3) := by decide +kernel
theorem dX7_clashingCouples_49 : decode cX7_clashingCouples 49 = .ok (.ifCond .eq 6, 3) := by decide +kernel
theorem dX7_clashingCouples_52 : decode cX7_clashingCouples 52 = .ok (.iinc 1 1, 3) := by decide +kernel
theorem dX7_clashingCouples_55 : decode cX7_clashingCouples 55 = .ok (.iinc 3 1, 3) := by decide +kernel
theorem dX7_clashingCouples_58 : decode cX7_clashingCouples 58 = .ok (.goto (-44), 3) := by decide +kernel
theorem dX7_clashingCouples_61 : decode cX7_clashingCouples 61 = .ok (.iinc 2 1, 3) := by decide +kernel
theorem dX7_clashingCouples_64 : decode cX7_clashingCouples 64 = .ok (.goto (-60), 3) := by decide +kernel
theorem dX7_clashingCouples_67 : decode cX7_clashingCouples 67 = .ok (.iload_n 1, 1) := by decide +kernel
theorem dX7_clashingCouples_68 : decode cX7_clashingCouples 68 = .ok (.ireturn, 1) := by decide +kernel
theorem dX8_init_0 : decode cX8_init 0 = .ok (.aload_n 0, 1) := by decide +kernel
theorem dX8_init_1 : decode cX8_init 1 = .ok (.invokespecial 3, 3) := by decide +kernel
theorem dX8_init_4 : decode cX8_init 4 = .ok (.aload_n 0, 1) := by decide +kernel
theorem dX8_init_5 : decode cX8_init 5 = .ok (.sipush 240, 3) := by decide +kernel
theorem dX8_init_8 : decode cX8_init 8 = .ok (.newarray .long, 2) := by decide +kernel
theorem dX8_init_10 : decode cX8_init 10 = .ok (.putfield 11, 3) := by decide +kernel
theorem dX8_init_13 : decode cX8_init 13 = .ok (.aload_n 0, 1) := by decide +kernel
theorem dX8_init_14 : decode cX8_init 14 = .ok (.iconst 4, 1) := by decide +kernel
theorem dX8_init_15 : decode cX8_init 15 = .ok (.newarray .int, 2) := by decide +kernel
theorem dX8_init_17 : decode cX8_init 17 = .ok (.putfield 15, 3) := by decide +kernel
theorem dX8_init_20 : decode cX8_init 20 = .ok (.aload_n 0, 1) := by decide +kernel
theorem dX8_init_21 : decode cX8_init 21 = .ok (.iconst 4, 1) := by decide +kernel
theorem dX8_init_22 : decode cX8_init 22 = .ok (.newarray .int, 2) := by decide +kernel
theorem dX8_init_24 : decode cX8_init 24 = .ok (.putfield 19, 3) := by decide +kernel
theorem dX8_init_27 : decode cX8_init 27 = .ok (.iconst 0, 1) := by decide +kernel
theorem dX8_init_28 : decode cX8_init 28 = .ok (.istore_n 1, 1) := by decide +kernel
theorem dX8_init_29 : decode cX8_init 29 = .ok (.iload_n 1, 1) := by decide +kernel
theorem dX8_init_30 : decode cX8_init 30 = .ok (.iconst 4, 1) := by decide +kernel
theorem dX8_init_31 : decode cX8_init 31 = .ok (.if_icmp .ge 16, 3) := by decide +kernel
theorem dX8_init_34 : decode cX8_init 34 = .ok (.aload_n 0, 1) := by decide +kernel
theorem dX8_init_35 : decode cX8_init 35 = .ok (.getfield 19, 3) := by decide +kernel
theorem dX8_init_38 : decode cX8_init 38 = .ok (.iload_n 1, 1) := by decide +kernel
theorem dX8_init_39 : decode cX8_init 39 = .ok (.iconst (-1), 1) := by decide +kernel
theorem dX8_init_40 : decode cX8_init 40 = .ok (.iastore, 1) := by decide +kernel
theorem dX8_init_41 : decode cX8_init 41 = .ok (.iinc 1 1, 3) := by decide +kernel
theorem dX8_init_44 : decode cX8_init 44 = .ok (.goto (-15), 3) := by decide +kernel
theorem dX8_init_47 : decode cX8_init 47 = .ok (.return_, 1) := by decide +kernel
theorem dX8_isTray_0 : decode cX8_isTray 0 = .ok (.iload_n 1, 1) := by decide +kernel
theorem dX8_isTray_1 : decode cX8_isTray 1 = .ok (.ifCond .lt 12, 3) := by decide +kernel
theorem dX8_isTray_4 : decode cX8_isTray 4 = .ok (.iload_n 1, 1) := by decide +kernel
theorem dX8_isTray_5 : decode cX8_isTray 5 = .ok (.iconst 4, 1) := by decide +kernel
theorem dX8_isTray_6 : decode cX8_isTray 6 = .ok (.if_icmp .ge 7, 3) := by decide +kernel
theorem dX8_isTray_9 : decode cX8_isTray 9 = .ok (.iconst 1, 1) := by decide +kernel
theorem dX8_isTray_10 : decode cX8_isTray 10 = .ok (.goto 4, 3) := by decide +kernel
theorem dX8_isTray_13 : decode cX8_isTray 13 = .ok (.iconst 0, 1) := by decide +kernel
theorem dX8_isTray_14 : decode cX8_isTray 14 = .ok (.ireturn, 1) := by decide +kernel
theorem dX8_isSort_0 : decode cX8_isSort 0 = .ok (.iload_n 1, 1) := by decide +kernel
theorem dX8_isSort_1 : decode cX8_isSort 1 = .ok (.ifCond .lt 12, 3) := by decide +kernel
theorem dX8_isSort_4 : decode cX8_isSort 4 = .ok (.iload_n 1, 1) := by decide +kernel
theorem dX8_isSort_5 : decode cX8_isSort 5 = .ok (.iconst 4, 1) := by decide +kernel
theorem dX8_isSort_6 : decode cX8_isSort 6 = .ok (.if_icmp .ge 7, 3) := by decide +kernel
theorem dX8_isSort_9 : decode cX8_isSort 9 = .ok (.iconst 1, 1) := by decide +kernel
theorem dX8_isSort_10 : decode cX8_isSort 10 = .ok (.goto 4, 3) := by decide +kernel
theorem dX8_isSort_13 : decode cX8_isSort 13 = .ok (.iconst 0, 1) := by decide +kernel
theorem dX8_isSort_14 : decode cX8_isSort 14 = .ok (.ireturn, 1) := by decide +kernel
theorem dX8_isMissing_0 : decode cX8_isMissing 0 = .ok (.aload_n 0, 1) := by decide +kernel
theorem dX8_isMissing_1 : decode cX8_isMissing 1 = .ok (.getfield 19, 3) := by decide +kernel
theorem dX8_isMissing_4 : decode cX8_isMissing 4 = .ok (.iload_n 1, 1) := by decide +kernel
theorem dX8_isMissing_5 : decode cX8_isMissing 5 = .ok (.iaload, 1) := by decide +kernel
theorem dX8_isMissing_6 : decode cX8_isMissing 6 = .ok (.iconst (-1), 1) := by decide +kernel
theorem dX8_isMissing_7 : decode cX8_isMissing 7 = .ok (.if_icmp .ne 7, 3) := by decide +kernel
theorem dX8_isMissing_10 : decode cX8_isMissing 10 = .ok (.iconst 1, 1) := by decide +kernel
theorem dX8_isMissing_11 : decode cX8_isMissing 11 = .ok (.goto 4, 3) := by decide +kernel
theorem dX8_isMissing_14 : decode cX8_isMissing 14 = .ok (.iconst 0, 1) := by decide +kernel
theorem dX8_isMissing_15 : decode cX8_isMissing 15 = .ok (.ireturn, 1) := by decide +kernel
theorem dX8_sortOf_0 : decode cX8_sortOf 0 = .ok (.aload_n 0, 1) := by decide +kernel
theorem dX8_sortOf_1 : decode cX8_sortOf 1 = .ok (.getfield 15, 3) := by decide +kernel
theorem dX8_sortOf_4 : decode cX8_sortOf 4 = .ok (.iload_n 1, 1) := by decide +kernel
theorem dX8_sortOf_5 : decode cX8_sortOf 5 = .ok (.iaload, 1) := by decide +kernel
theorem dX8_sortOf_6 : decode cX8_sortOf 6 = .ok (.ireturn, 1) := by decide +kernel
theorem dX8_hasFrom_0 : decode cX8_hasFrom 0 = .ok (.iload_n 2, 1) := by decide +kernel
theorem dX8_hasFrom_1 : decode cX8_hasFrom 1 = .ok (.ifCond .lt 23, 3) := by decide +kernel
theorem dX8_hasFrom_4 : decode cX8_hasFrom 4 = .ok (.iload_n 3, 1) := by decide +kernel
theorem dX8_hasFrom_5 : decode cX8_hasFrom 5 = .ok (.ifCond .lt 19, 3) := by decide +kernel
theorem dX8_hasFrom_8 : decode cX8_hasFrom 8 = .ok (.aload_n 0, 1) := by decide +kernel
theorem dX8_hasFrom_9 : decode cX8_hasFrom 9 = .ok (.getfield 19, 3) := by decide +kernel
theorem dX8_hasFrom_12 : decode cX8_hasFrom 12 = .ok (.iload_n 1, 1) := by decide +kernel
theorem dX8_hasFrom_13 : decode cX8_hasFrom 13 = .ok (.iaload, 1) := by decide +kernel
theorem dX8_hasFrom_14 : decode cX8_hasFrom 14 = .ok (.iload_n 2, 1) := by decide +kernel
theorem dX8_hasFrom_15 : decode cX8_hasFrom 15 = .ok (.isub, 1) := by decide +kernel
theorem dX8_hasFrom_16 : decode cX8_hasFrom 16 = .ok (.iload_n 3, 1) := by decide +kernel
theorem dX8_hasFrom_17 : decode cX8_hasFrom 17 = .ok (.if_icmp .lt 7, 3) := by decide +kernel
theorem dX8_hasFrom_20 : decode cX8_hasFrom 20 = .ok (.iconst 1, 1) := by decide +kernel
theorem dX8_hasFrom_21 : decode cX8_hasFrom 21 = .ok (.goto 4, 3) := by decide +kernel
theorem dX8_hasFrom_24 : decode cX8_hasFrom 24 = .ok (.iconst 0, 1) := by decide +kernel
theorem dX8_hasFrom_25 : decode cX8_hasFrom 25 = .ok (.ireturn, 1) := by decide +kernel
theorem dX8_whyNoPlace_0 : decode cX8_whyNoPlace 0 = .ok (.aload_n 0, 1) := by decide +kernel
theorem dX8_whyNoPlace_1 : decode cX8_whyNoPlace 1 = .ok (.iload_n 1, 1) := by decide +kernel
theorem dX8_whyNoPlace_2 : decode cX8_whyNoPlace 2 = .ok (.invokevirtual 22, 3) := by decide +kernel
theorem dX8_whyNoPlace_5 : decode cX8_whyNoPlace 5 = .ok (.ifCond .ne 5, 3) := by decide +kernel
theorem dX8_whyNoPlace_8 : decode cX8_whyNoPlace 8 = .ok (.iconst 1, 1) := by decide +kernel
theorem dX8_whyNoPlace_9 : decode cX8_whyNoPlace 9 = .ok (.ireturn, 1) := by decide +kernel
theorem dX8_whyNoPlace_10 : decode cX8_whyNoPlace 10 = .ok (.aload_n 0, 1) := by decide +kernel
theorem dX8_whyNoPlace_11 : decode cX8_whyNoPlace 11 = .ok (.iload_n 1, 1) := by decide +kernel
theorem dX8_whyNoPlace_12 : decode cX8_whyNoPlace 12 = .ok (.invokevirtual 26, 3) := by decide +kernel
theorem dX8_whyNoPlace_15 : decode cX8_whyNoPlace 15 = .ok (.ifCond .eq 5, 3) := by decide +kernel
theorem dX8_whyNoPlace_18 : decode cX8_whyNoPlace 18 = .ok (.iconst 2, 1) := by decide +kernel
theorem dX8_whyNoPlace_19 : decode cX8_whyNoPlace 19 = .ok (.ireturn, 1) := by decide +kernel
theorem dX8_whyNoPlace_20 : decode cX8_whyNoPlace 20 = .ok (.iload_n 2, 1) := by decide +kernel
theorem dX8_whyNoPlace_21 : decode cX8_whyNoPlace 21 = .ok (.ifCond .lt 13, 3) := by decide +kernel
theorem dX8_whyNoPlace_24 : decode cX8_whyNoPlace 24 = .ok (.iload_n 2, 1) := by decide +kernel
theorem dX8_whyNoPlace_25 : decode cX8_whyNoPlace 25 = .ok (.aload_n 0, 1) := by decide +kernel
theorem dX8_whyNoPlace_26 : decode cX8_whyNoPlace 26 = .ok (.getfield 19, 3) := by decide +kernel
theorem dX8_whyNoPlace_29 : decode cX8_whyNoPlace 29 = .ok (.iload_n 1, 1) := by decide +kernel
theorem dX8_whyNoPlace_30 : decode cX8_whyNoPlace 30 = .ok (.iaload, 1) := by decide +kernel
theorem dX8_whyNoPlace_31 : decode cX8_whyNoPlace 31 = .ok (.if_icmp .lt 7, 3) := by decide +kernel
theorem dX8_whyNoPlace_34 : decode cX8_whyNoPlace 34 = .ok (.iconst 3, 1) := by decide +kernel
theorem dX8_whyNoPlace_35 : decode cX8_whyNoPlace 35 = .ok (.goto 4, 3) := by decide +kernel
theorem dX8_whyNoPlace_38 : decode cX8_whyNoPlace 38 = .ok (.iconst 0, 1) := by decide +kernel
theorem dX8_whyNoPlace_39 : decode cX8_whyNoPlace 39 = .ok (.ireturn, 1) := by decide +kernel
theorem dX8_lay_0 : decode cX8_lay 0 = .ok (.aload_n 0, 1) := by decide +kernel
theorem dX8_lay_1 : decode cX8_lay 1 = .ok (.getfield 15, 3) := by decide +kernel
theorem dX8_lay_4 : decode cX8_lay 4 = .ok (.iload_n 1, 1) := by decide +kernel
theorem dX8_lay_5 : decode cX8_lay 5 = .ok (.iload_n 2, 1) := by decide +kernel
theorem dX8_lay_6 : decode cX8_lay 6 = .ok (.iastore, 1) := by decide +kernel
theorem dX8_lay_7 : decode cX8_lay 7 = .ok (.aload_n 0, 1) := by decide +kernel
theorem dX8_lay_8 : decode cX8_lay 8 = .ok (.getfield 19, 3) := by decide +kernel
theorem dX8_lay_11 : decode cX8_lay 11 = .ok (.iload_n 1, 1) := by decide +kernel
theorem dX8_lay_12 : decode cX8_lay 12 = .ok (.iload_n 3, 1) := by decide +kernel
theorem dX8_lay_13 : decode cX8_lay 13 = .ok (.iastore, 1) := by decide +kernel
theorem dX8_lay_14 : decode cX8_lay 14 = .ok (.iconst 0, 1) := by decide +kernel
theorem dX8_lay_15 : decode cX8_lay 15 = .ok (.istore 4, 2) := by decide +kernel
theorem dX8_lay_17 : decode cX8_lay 17 = .ok (.iload 4, 2) := by decide +kernel
theorem dX8_lay_19 : decode cX8_lay 19 = .ok (.iload_n 3, 1) := by decide +kernel
theorem dX8_lay_20 : decode cX8_lay 20 = .ok (.if_icmp .ge 22, 3) := by decide +kernel
theorem dX8_lay_23 : decode cX8_lay 23 = .ok (.aload_n 0, 1) := by decide +kernel
theorem dX8_lay_24 : decode cX8_lay 24 = .ok (.getfield 11, 3) := by decide +kernel
theorem dX8_lay_27 : decode cX8_lay 27 = .ok (.iload_n 1, 1) := by decide +kernel
theorem dX8_lay_28 : decode cX8_lay 28 = .ok (.bipush 60, 2) := by decide +kernel
theorem dX8_lay_30 : decode cX8_lay 30 = .ok (.imul, 1) := by decide +kernel
theorem dX8_lay_31 : decode cX8_lay 31 = .ok (.iload 4, 2) := by decide +kernel
theorem dX8_lay_33 : decode cX8_lay 33 = .ok (.iadd, 1) := by decide +kernel
theorem dX8_lay_34 : decode cX8_lay 34 = .ok (.lconst 0, 1) := by decide +kernel
theorem dX8_lay_35 : decode cX8_lay 35 = .ok (.lastore, 1) := by decide +kernel
theorem dX8_lay_36 : decode cX8_lay 36 = .ok (.iinc 4 1, 3) := by decide +kernel
theorem dX8_lay_39 : decode cX8_lay 39 = .ok (.goto (-22), 3) := by decide +kernel
theorem dX8_lay_42 : decode cX8_lay 42 = .ok (.return_, 1) := by decide +kernel
theorem dX8_put_0 : decode cX8_put 0 = .ok (.lload_n 3, 1) := by decide +kernel
theorem dX8_put_1 : decode cX8_put 1 = .ok (.lstore 5, 2) := by decide +kernel
theorem dX8_put_3 : decode cX8_put 3 = .ok (.aload_n 0, 1) := by decide +kernel
theorem dX8_put_4 : decode cX8_put 4 = .ok (.getfield 15, 3) := by decide +kernel
theorem dX8_put_7 : decode cX8_put 7 = .ok (.iload_n 1, 1) := by decide +kernel
theorem dX8_put_8 : decode cX8_put 8 = .ok (.iaload, 1) := by decide +kernel
theorem dX8_put_9 : decode cX8_put 9 = .ok (.ifCond .ne 12, 3) := by decide +kernel
theorem dX8_put_12 : decode cX8_put 12 = .ok (.lload_n 3, 1) := by decide +kernel
theorem dX8_put_13 : decode cX8_put 13 = .ok (.l2i, 1) := by decide +kernel
theorem dX8_put_14 : decode cX8_put 14 = .ok (.i2b, 1) := by decide +kernel
theorem dX8_put_15 : decode cX8_put 15 = .ok (.i2l, 1) := by decide +kernel
theorem dX8_put_16 : decode cX8_put 16 = .ok (.lstore 5, 2) := by decide +kernel
theorem dX8_put_18 : decode cX8_put 18 = .ok (.goto 37, 3) := by decide +kernel
theorem dX8_put_21 : decode cX8_put 21 = .ok (.aload_n 0, 1) := by decide +kernel
theorem dX8_put_22 : decode cX8_put 22 = .ok (.getfield 15, 3) := by decide +kernel
theorem dX8_put_25 : decode cX8_put 25 = .ok (.iload_n 1, 1) := by decide +kernel
theorem dX8_put_26 : decode cX8_put 26 = .ok (.iaload, 1) := by decide +kernel
theorem dX8_put_27 : decode cX8_put 27 = .ok (.iconst 1, 1) := by decide +kernel
theorem dX8_put_28 : decode cX8_put 28 = .ok (.if_icmp .ne 12, 3) := by decide +kernel
theorem dX8_put_31 : decode cX8_put 31 = .ok (.lload_n 3, 1) := by decide +kernel
theorem dX8_put_32 : decode cX8_put 32 = .ok (.l2i, 1) := by decide +kernel
theorem dX8_put_33 : decode cX8_put 33 = .ok (.i2s, 1) := by decide +kernel
theorem dX8_put_34 : decode cX8_put 34 = .ok (.i2l, 1) := by decide +kernel
theorem dX8_put_35 : decode cX8_put 35 = .ok (.lstore 5, 2) := by decide +kernel
theorem dX8_put_37 : decode cX8_put 37 = .ok (.goto 18, 3) := by decide +kernel
theorem dX8_put_40 : decode cX8_put 40 = .ok (.aload_n 0, 1) := by decide +kernel
theorem dX8_put_41 : decode cX8_put 41 = .ok (.getfield 15, 3) := by decide +kernel
theorem dX8_put_44 : decode cX8_put 44 = .ok (.iload_n 1, 1) := by decide +kernel
theorem dX8_put_45 : decode cX8_put 45 = .ok (.iaload, 1) := by decide +kernel
theorem dX8_put_46 : decode cX8_put 46 = .ok (.iconst 2, 1) := by decide +kernel
theorem dX8_put_47 : decode cX8_put 47 = .ok (.if_icmp .ne 8, 3) := by decide +kernel
theorem dX8_put_50 : decode cX8_put 50 = .ok (.lload_n 3, 1) := by decide +kernel
theorem dX8_put_51 : decode cX8_put 51 = .ok (.l2i, 1) := by decide +kernel
theorem dX8_put_52 : decode cX8_put 52 = .ok (.i2l, 1) := by decide +kernel
theorem dX8_put_53 : decode cX8_put 53 = .ok (.lstore 5, 2) := by decide +kernel
theorem dX8_put_55 : decode cX8_put 55 = .ok (.aload_n 0, 1) := by decide +kernel
theorem dX8_put_56 : decode cX8_put 56 = .ok (.getfield 11, 3) := by decide +kernel
theorem dX8_put_59 : decode cX8_put 59 = .ok (.iload_n 1, 1) := by decide +kernel
theorem dX8_put_60 : decode cX8_put 60 = .ok (.bipush 60, 2) := by decide +kernel
theorem dX8_put_62 : decode cX8_put 62 = .ok (.imul, 1) := by decide +kernel
theorem dX8_put_63 : decode cX8_put 63 = .ok (.iload_n 2, 1) := by decide +kernel
theorem dX8_put_64 : decode cX8_put 64 = .ok (.iadd, 1) := by decide +kernel
theorem dX8_put_65 : decode cX8_put 65 = .ok (.lload 5, 2) := by decide +kernel
theorem dX8_put_67 : decode cX8_put 67 = .ok (.lastore, 1) := by decide +kernel
theorem dX8_put_68 : decode cX8_put 68 = .ok (.return_, 1) := by decide +kernel
theorem dX8_numberAt_0 : decode cX8_numberAt 0 = .ok (.aload_n 0, 1) := by decide +kernel
theorem dX8_numberAt_1 : decode cX8_numberAt 1 = .ok (.getfield 11, 3) := by decide +kernel
theorem dX8_numberAt_4 : decode cX8_numberAt 4 = .ok (.iload_n 1, 1) := by decide +kernel
theorem dX8_numberAt_5 : decode cX8_numberAt 5 = .ok (.bipush 60, 2) := by decide +kernel
theorem dX8_numberAt_7 : decode cX8_numberAt 7 = .ok (.imul, 1) := by decide +kernel
theorem dX8_numberAt_8 : decode cX8_numberAt 8 = .ok (.iload_n 2, 1) := by decide +kernel
theorem dX8_numberAt_9 : decode cX8_numberAt 9 = .ok (.iadd, 1) := by decide +kernel
theorem dX8_numberAt_10 : decode cX8_numberAt 10 = .ok (.laload, 1) := by decide +kernel
theorem dX8_numberAt_11 : decode cX8_numberAt 11 = .ok (.lreturn, 1) := by decide +kernel
theorem dX8_move_0 : decode cX8_move 0 = .ok (.aload_n 0, 1) := by decide +kernel
theorem dX8_move_1 : decode cX8_move 1 = .ok (.getfield 11, 3) := by decide +kernel
theorem dX8_move_4 : decode cX8_move 4 = .ok (.iload_n 1, 1) := by decide +kernel
theorem dX8_move_5 : decode cX8_move 5 = .ok (.bipush 60, 2) := by decide +kernel
theorem dX8_move_7 : decode cX8_move 7 = .ok (.imul, 1) := by decide +kernel
theorem dX8_move_8 : decode cX8_move 8 = .ok (.iload_n 2, 1) := by decide +kernel
theorem dX8_move_9 : decode cX8_move 9 = .ok (.iadd, 1) := by decide +kernel
theorem dX8_move_10 : decode cX8_move 10 = .ok (.aload_n 0, 1) := by decide +kernel
theorem dX8_move_11 : decode cX8_move 11 = .ok (.getfield 11, 3) := by decide +kernel
theorem dX8_move_14 : decode cX8_move 14 = .ok (.iload_n 3, 1) := by decide +kernel
theorem dX8_move_15 : decode cX8_move 15 = .ok (.bipush 60, 2) := by decide +kernel
theorem dX8_move_17 : decode cX8_move 17 = .ok (.imul, 1) := by decide +kernel
theorem dX8_move_18 : decode cX8_move 18 = .ok (.iload 4, 2) := by decide +kernel
theorem dX8_move_20 : decode cX8_move 20 = .ok (.iadd, 1) := by decide +kernel
theorem dX8_move_21 : decode cX8_move 21 = .ok (.iload 5, 2) := by decide +kernel
theorem dX8_move_23 : decode cX8_move 23 = .ok (.invokestatic 29, 3) := by decide +kernel
theorem dX8_move_26 : decode cX8_move 26 = .ok (.return_, 1) := by decide +kernel
theorem dX8_areWithin_0 : decode cX8_areWithin 0 = .ok (.iconst 0, 1) := by decide +kernel
theorem dX8_areWithin_1 : decode cX8_areWithin 1 = .ok (.istore 4, 2) := by decide +kernel
theorem dX8_areWithin_3 : decode cX8_areWithin 3 = .ok (.iload 4, 2) := by decide +kernel
theorem dX8_areWithin_5 : decode cX8_areWithin 5 = .ok (.iload_n 2, 1) := by decide +kernel
theorem dX8_areWithin_6 : decode cX8_areWithin 6 = .ok (.if_icmp .ge 37, 3) := by decide +kernel
theorem dX8_areWithin_9 : decode cX8_areWithin 9 = .ok (.aload_n 0, 1) := by decide +kernel
theorem dX8_areWithin_10 : decode cX8_areWithin 10 = .ok (.iload_n 1, 1) := by decide +kernel
theorem dX8_areWithin_11 : decode cX8_areWithin 11 = .ok (.iload 4, 2) := by decide +kernel
theorem dX8_areWithin_13 : decode cX8_areWithin 13 = .ok (.invokevirtual 35, 3) := by decide +kernel
theorem dX8_areWithin_16 : decode cX8_areWithin 16 = .ok (.lstore 5, 2) := by decide +kernel
theorem dX8_areWithin_18 : decode cX8_areWithin 18 = .ok (.lload 5, 2) := by decide +kernel
theorem dX8_areWithin_20 : decode cX8_areWithin 20 = .ok (.iload_n 3, 1) := by decide +kernel
theorem dX8_areWithin_21 : decode cX8_areWithin 21 = .ok (.i2l, 1) := by decide +kernel
theorem dX8_areWithin_22 : decode cX8_areWithin 22 = .ok (.lcmp, 1) := by decide +kernel
theorem dX8_areWithin_23 : decode cX8_areWithin 23 = .ok (.ifCond .lt 12, 3) := by decide +kernel
theorem dX8_areWithin_26 : decode cX8_areWithin 26 = .ok (.lload 5, 2) := by decide +kernel
theorem dX8_areWithin_28 : decode cX8_areWithin 28 = .ok (.ldc2_w 39, 3) := by decide +kernel
theorem dX8_areWithin_31 : decode cX8_areWithin 31 = .ok (.lcmp, 1) := by decide +kernel
theorem dX8_areWithin_32 : decode cX8_areWithin 32 = .ok (.ifCond .le 5, 3) := by decide +kernel
theorem dX8_areWithin_35 : decode cX8_areWithin 35 = .ok (.iconst 0, 1) := by decide +kernel
theorem dX8_areWithin_36 : decode cX8_areWithin 36 = .ok (.ireturn, 1) := by decide +kernel
theorem dX8_areWithin_37 : decode cX8_areWithin 37 = .ok (.iinc 4 1, 3) := by decide +kernel
theorem dX8_areWithin_40 : decode cX8_areWithin 40 = .ok (.goto (-37), 3) := by decide +kernel
theorem dX8_areWithin_43 : decode cX8_areWithin 43 = .ok (.iconst 1, 1) := by decide +kernel
theorem dX8_areWithin_44 : decode cX8_areWithin 44 = .ok (.ireturn, 1) := by decide +kernel
theorem dX9_init_0 : decode cX9_init 0 = .ok (.aload_n 0, 1) := by decide +kernel
theorem dX9_init_1 : decode cX9_init 1 = .ok (.invokespecial 3, 3) := by decide +kernel
theorem dX9_init_4 : decode cX9_init 4 = .ok (.aload_n 0, 1) := by decide +kernel
theorem dX9_init_5 : decode cX9_init 5 = .ok (.sipush 1200, 3) := by decide +kernel
theorem dX9_init_8 : decode cX9_init 8 = .ok (.newarray .int, 2) := by decide +kernel
theorem dX9_init_10 : decode cX9_init 10 = .ok (.putfield 9, 3) := by decide +kernel
theorem dX9_init_13 : decode cX9_init 13 = .ok (.aload_n 0, 1) := by decide +kernel
theorem dX9_init_14 : decode cX9_init 14 = .ok (.iconst 0, 1) := by decide +kernel
theorem dX9_init_15 : decode cX9_init 15 = .ok (.putfield 15, 3) := by decide +kernel
theorem dX9_init_18 : decode cX9_init 18 = .ok (.aload_n 0, 1) := by decide +kernel
theorem dX9_init_19 : decode cX9_init 19 = .ok (.iconst 0, 1) := by decide +kernel
theorem dX9_init_20 : decode cX9_init 20 = .ok (.putfield 19, 3) := by decide +kernel
theorem dX9_init_23 : decode cX9_init 23 = .ok (.return_, 1) := by decide +kernel
theorem dX9_wearOff_0 : decode cX9_wearOff 0 = .ok (.aload_n 0, 1) := by decide +kernel
theorem dX9_wearOff_1 : decode cX9_wearOff 1 = .ok (.iload_n 2, 1) := by decide +kernel
theorem dX9_wearOff_2 : decode cX9_wearOff 2 = .ok (.putfield 19, 3) := by decide +kernel
theorem dX9_wearOff_5 : decode cX9_wearOff 5 = .ok (.aload_n 0, 1) := by decide +kernel
theorem dX9_wearOff_6 : decode cX9_wearOff 6 = .ok (.aload_n 1, 1) := by decide +kernel
theorem dX9_wearOff_7 : decode cX9_wearOff 7 = .ok (.getfield 22, 3) := by decide +kernel
theorem dX9_wearOff_10 : decode cX9_wearOff 10 = .ok (.putfield 15, 3) := by decide +kernel
theorem dX9_wearOff_13 : decode cX9_wearOff 13 = .ok (.iconst 0, 1) := by decide +kernel
theorem dX9_wearOff_14 : decode cX9_wearOff 14 = .ok (.istore 4, 2) := by decide +kernel
theorem dX9_wearOff_16 : decode cX9_wearOff 16 = .ok (.iconst 0, 1) := by decide +kernel
theorem dX9_wearOff_17 : decode cX9_wearOff 17 = .ok (.istore 5, 2) := by decide +kernel
theorem dX9_wearOff_19 : decode cX9_wearOff 19 = .ok (.iload 5, 2) := by decide +kernel
theorem dX9_wearOff_21 : decode cX9_wearOff 21 = .ok (.aload_n 0, 1) := by decide +kernel
theorem dX9_wearOff_22 : decode cX9_wearOff 22 = .ok (.getfield 15, 3) := by decide +kernel
theorem dX9_wearOff_25 : decode cX9_wearOff 25 = .ok (.if_icmp .ge 54, 3) := by decide +kernel
theorem dX9_wearOff_28 : decode cX9_wearOff 28 = .ok (.aload_n 0, 1) := by decide +kernel
theorem dX9_wearOff_29 : decode cX9_wearOff 29 = .ok (.getfield 9, 3) := by decide +kernel
theorem dX9_wearOff_32 : decode cX9_wearOff 32 = .ok (.iload 5, 2) := by decide +kernel
theorem dX9_wearOff_34 : decode cX9_wearOff 34 = .ok (.aload_n 0, 1) := by decide +kernel
theorem dX9_wearOff_35 : decode cX9_wearOff 35 = .ok (.aload_n 1, 1) := by decide +kernel
theorem dX9_wearOff_36 : decode cX9_wearOff 36 = .ok (.getfield 25, 3) := by decide +kernel
theorem dX9_wearOff_39 : decode cX9_wearOff 39 = .ok (.iload 5, 2) := by decide +kernel
theorem dX9_wearOff_41 : decode cX9_wearOff 41 = .ok (.iaload, 1) := by decide +kernel
theorem dX9_wearOff_42 : decode cX9_wearOff 42 = .ok (.iload_n 3, 1) := by decide +kernel
theorem dX9_wearOff_43 : decode cX9_wearOff 43 = .ok (.invokevirtual 26, 3) := by decide +kernel
theorem dX9_wearOff_46 : decode cX9_wearOff 46 = .ok (.iastore, 1) := by decide +kernel
theorem dX9_wearOff_47 : decode cX9_wearOff 47 = .ok (.iload 4, 2) := by decide +kernel
theorem dX9_wearOff_49 : decode cX9_wearOff 49 = .ok (.aload_n 1, 1) := by decide +kernel
theorem dX9_wearOff_50 : decode cX9_wearOff 50 = .ok (.getfield 25, 3) := by decide +kernel
theorem dX9_wearOff_53 : decode cX9_wearOff 53 = .ok (.iload 5, 2) := by decide +kernel
theorem dX9_wearOff_55 : decode cX9_wearOff 55 = .ok (.iaload, 1) := by decide +kernel
theorem dX9_wearOff_56 : decode cX9_wearOff 56 = .ok (.invokestatic 30, 3) := by decide +kernel
theorem dX9_wearOff_59 : decode cX9_wearOff 59 = .ok (.aload_n 0, 1) := by decide +kernel
theorem dX9_wearOff_60 : decode cX9_wearOff 60 = .ok (.getfield 9, 3) := by decide +kernel
theorem dX9_wearOff_63 : decode cX9_wearOff 63 = .ok (.iload 5, 2) := by decide +kernel
theorem dX9_wearOff_65 : decode cX9_wearOff 65 = .ok (.iaload, 1) := by decide +kernel
theorem dX9_wearOff_66 : decode cX9_wearOff 66 = .ok (.invokestatic 30, 3) := by decide +kernel
theorem dX9_wearOff_69 : decode cX9_wearOff 69 = .ok (.isub, 1) := by decide +kernel
theorem dX9_wearOff_70 : decode cX9_wearOff 70 = .ok (.iadd, 1) := by decide +kernel
theorem dX9_wearOff_71 : decode cX9_wearOff 71 = .ok (.istore 4, 2) := by decide +kernel
theorem dX9_wearOff_73 : decode cX9_wearOff 73 = .ok (.iinc 5 1, 3) := by decide +kernel
theorem dX9_wearOff_76 : decode cX9_wearOff 76 = .ok (.goto (-57), 3) := by decide +kernel
theorem dX9_wearOff_79 : decode cX9_wearOff 79 = .ok (.iload 4, 2) := by decide +kernel
theorem dX9_wearOff_81 : decode cX9_wearOff 81 = .ok (.ireturn, 1) := by decide +kernel
theorem dX9_leavesNoneBare_0 : decode cX9_leavesNoneBare 0 = .ok (.aload_n 0, 1) := by decide +kernel
theorem dX9_leavesNoneBare_1 : decode cX9_leavesNoneBare 1 = .ok (.iload_n 2, 1) := by decide +kernel
theorem dX9_leavesNoneBare_2 : decode cX9_leavesNoneBare 2 = .ok (.putfield 19, 3) := by decide +kernel
theorem dX9_leavesNoneBare_5 : decode cX9_leavesNoneBare 5 = .ok (.iconst 0, 1) := by decide +kernel
theorem dX9_leavesNoneBare_6 : decode cX9_leavesNoneBare 6 = .ok (.istore 4, 2) := by decide +kernel
theorem dX9_leavesNoneBare_8 : decode cX9_leavesNoneBare 8 = .ok (.iload 4, 2) := by decide +kernel
theorem dX9_leavesNoneBare_10 : decode cX9_leavesNoneBare 10 = .ok (.aload_n 1, 1) := by decide +kernel
theorem dX9_leavesNoneBare_11 : decode cX9_leavesNoneBare 11 = .ok (.getfield 22, 3) := by decide +kernel
theorem dX9_leavesNoneBare_14 : decode cX9_leavesNoneBare 14 = .ok (.if_icmp .ge 36, 3) := by decide +kernel
theorem dX9_leavesNoneBare_17 : decode cX9_leavesNoneBare 17 = .ok (.aload_n 1, 1) := by decide +kernel
theorem dX9_leavesNoneBare_18 : decode cX9_leavesNoneBare 18 = .ok (.getfield 25, 3) := by decide +kernel
theorem dX9_leavesNoneBare_21 : decode cX9_leavesNoneBare 21 = .ok (.iload 4, 2) := by decide +kernel
theorem dX9_leavesNoneBare_23 : decode cX9_leavesNoneBare 23 = .ok (.iaload, 1) := by decide +kernel
theorem dX9_leavesNoneBare_24 : decode cX9_leavesNoneBare 24 = .ok (.ifCond .eq 20, 3) := by decide +kernel
theorem dX9_leavesNoneBare_27 : decode cX9_leavesNoneBare 27 = .ok (.aload_n 0, 1) := by decide +kernel
theorem dX9_leavesNoneBare_28 : decode cX9_leavesNoneBare 28 = .ok (.aload_n 1, 1) := by decide +kernel
theorem dX9_leavesNoneBare_29 : decode cX9_leavesNoneBare 29 = .ok (.getfield 25, 3) := by decide +kernel
theorem dX9_leavesNoneBare_32 : decode cX9_leavesNoneBare 32 = .ok (.iload 4, 2) := by decide +kernel
theorem dX9_leavesNoneBare_34 : decode cX9_leavesNoneBare 34 = .ok (.iaload, 1) := by decide +kernel
theorem dX9_leavesNoneBare_35 : decode cX9_leavesNoneBare 35 = .ok (.iload_n 3, 1) := by decide +kernel
theorem dX9_leavesNoneBare_36 : decode cX9_leavesNoneBare 36 = .ok (.invokevirtual 26, 3) := by decide +kernel
theorem dX9_leavesNoneBare_39 : decode cX9_leavesNoneBare 39 = .ok (.ifCond .ne 5, 3) := by decide +kernel
theorem dX9_leavesNoneBare_42 : decode cX9_leavesNoneBare 42 = .ok (.iconst 0, 1) := by decide +kernel
theorem dX9_leavesNoneBare_43 : decode cX9_leavesNoneBare 43 = .ok (.ireturn, 1) := by decide +kernel
theorem dX9_leavesNoneBare_44 : decode cX9_leavesNoneBare 44 = .ok (.iinc 4 1, 3) := by decide +kernel
theorem dX9_leavesNoneBare_47 : decode cX9_leavesNoneBare 47 = .ok (.goto (-39), 3) := by decide +kernel
theorem dX9_leavesNoneBare_50 : decode cX9_leavesNoneBare 50 = .ok (.iconst 1, 1) := by decide +kernel
theorem dX9_leavesNoneBare_51 : decode cX9_leavesNoneBare 51 = .ok (.ireturn, 1) := by decide +kernel
theorem dX9_leftOf_0 : decode cX9_leftOf 0 = .ok (.iload_n 1, 1) := by decide +kernel
theorem dX9_leftOf_1 : decode cX9_leftOf 1 = .ok (.istore_n 3, 1) := by decide +kernel
theorem dX9_leftOf_2 : decode cX9_leftOf 2 = .ok (.iconst 1, 1) := by decide +kernel
theorem dX9_leftOf_3 : decode cX9_leftOf 3 = .ok (.istore 4, 2) := by decide +kernel
theorem dX9_leftOf_5 : decode cX9_leftOf 5 = .ok (.iload 4, 2) := by decide +kernel
theorem dX9_leftOf_7 : decode cX9_leftOf 7 = .ok (.bipush 63, 2) := by decide +kernel
theorem dX9_leftOf_9 : decode cX9_leftOf 9 = .ok (.if_icmp .gt 59, 3) := by decide +kernel
theorem dX9_leftOf_12 : decode cX9_leftOf 12 = .ok (.iload_n 1, 1) := by decide +kernel
theorem dX9_leftOf_13 : decode cX9_leftOf 13 = .ok (.iload 4, 2) := by decide +kernel
theorem dX9_leftOf_15 : decode cX9_leftOf 15 = .ok (.iand, 1) := by decide +kernel
theorem dX9_leftOf_16 : decode cX9_leftOf 16 = .ok (.ifCond .eq 43, 3) := by decide +kernel
theorem dX9_leftOf_19 : decode cX9_leftOf 19 = .ok (.aload_n 0, 1) := by decide +kernel
theorem dX9_leftOf_20 : decode cX9_leftOf 20 = .ok (.aload_n 0, 1) := by decide +kernel
theorem dX9_leftOf_21 : decode cX9_leftOf 21 = .ok (.getfield 19, 3) := by decide +kernel
theorem dX9_leftOf_24 : decode cX9_leftOf 24 = .ok (.sipush 2801, 3) := by decide +kernel
theorem dX9_leftOf_27 : decode cX9_leftOf 27 = .ok (.imul, 1) := by decide +kernel
theorem dX9_leftOf_28 : decode cX9_leftOf 28 = .ok (.sipush 10163, 3) := by decide +kernel
theorem dX9_leftOf_31 : decode cX9_leftOf 31 = .ok (.iadd, 1) := by decide +kernel
theorem dX9_leftOf_32 : decode cX9_leftOf 32 = .ok (.ldc 36, 2) := by decide +kernel
theorem dX9_leftOf_34 : decode cX9_leftOf 34 = .ok (.irem, 1) := by decide +kernel
theorem dX9_leftOf_35 : decode cX9_leftOf 35 = .ok (.putfield 19, 3) := by decide +kernel
theorem dX9_leftOf_38 : decode cX9_leftOf 38 = .ok (.aload_n 0, 1) := by decide +kernel
theorem dX9_leftOf_39 : decode cX9_leftOf 39 = .ok (.getfield 19, 3) := by decide +kernel
theorem dX9_leftOf_42 : decode cX9_leftOf 42 = .ok (.bipush 8, 2) := by decide +kernel
theorem dX9_leftOf_44 : decode cX9_leftOf 44 = .ok (.idiv, 1) := by decide +kernel
theorem dX9_leftOf_45 : decode cX9_leftOf 45 = .ok (.bipush 16, 2) := by decide +kernel
theorem dX9_leftOf_47 : decode cX9_leftOf 47 = .ok (.irem, 1) := by decide +kernel
theorem dX9_leftOf_48 : decode cX9_leftOf 48 = .ok (.iload_n 2, 1) := by decide +kernel
theorem dX9_leftOf_49 : decode cX9_leftOf 49 = .ok (.if_icmp .ge 10, 3) := by decide +kernel
theorem dX9_leftOf_52 : decode cX9_leftOf 52 = .ok (.iload_n 3, 1) := by decide +kernel
theorem dX9_leftOf_53 : decode cX9_leftOf 53 = .ok (.iload 4, 2) := by decide +kernel
theorem dX9_leftOf_55 : decode cX9_leftOf 55 = .ok (.iconst (-1), 1) := by decide +kernel
theorem dX9_leftOf_56 : decode cX9_leftOf 56 = .ok (.ixor, 1) := by decide +kernel
theorem dX9_leftOf_57 : decode cX9_leftOf 57 = .ok (.iand, 1) := by decide +kernel
theorem dX9_leftOf_58 : decode cX9_leftOf 58 = .ok (.istore_n 3, 1) := by decide +kernel
theorem dX9_leftOf_59 : decode cX9_leftOf 59 = .ok (.iload 4, 2) := by decide +kernel
theorem dX9_leftOf_61 : decode cX9_leftOf 61 = .ok (.iconst 1, 1) := by decide +kernel
theorem dX9_leftOf_62 : decode cX9_leftOf 62 = .ok (.ishl, 1) := by decide +kernel
theorem dX9_leftOf_63 : decode cX9_leftOf 63 = .ok (.istore 4, 2) := by decide +kernel
theorem dX9_leftOf_65 : decode cX9_leftOf 65 = .ok (.goto (-60), 3) := by decide +kernel
theorem dX9_leftOf_68 : decode cX9_leftOf 68 = .ok (.iload_n 3, 1) := by decide +kernel
theorem dX9_leftOf_69 : decode cX9_leftOf 69 = .ok (.ireturn, 1) := by decide +kernel
theorem dX10_init_0 : decode cX10_init 0 = .ok (.aload_n 0, 1) := by decide +kernel
theorem dX10_init_1 : decode cX10_init 1 = .ok (.invokespecial 3, 3) := by decide +kernel
theorem dX10_init_4 : decode cX10_init 4 = .ok (.aload_n 0, 1) := by decide +kernel
theorem dX10_init_5 : decode cX10_init 5 = .ok (.sipush 900, 3) := by decide +kernel
theorem dX10_init_8 : decode cX10_init 8 = .ok (.newarray .int, 2) := by decide +kernel
theorem dX10_init_10 : decode cX10_init 10 = .ok (.putfield 9, 3) := by decide +kernel
theorem dX10_init_13 : decode cX10_init 13 = .ok (.aload_n 0, 1) := by decide +kernel
theorem dX10_init_14 : decode cX10_init 14 = .ok (.iconst 0, 1) := by decide +kernel
theorem dX10_init_15 : decode cX10_init 15 = .ok (.putfield 13, 3) := by decide +kernel
theorem dX10_init_18 : decode cX10_init 18 = .ok (.aload_n 0, 1) := by decide +kernel
theorem dX10_init_19 : decode cX10_init 19 = .ok (.iconst 0, 1) := by decide +kernel
theorem dX10_init_20 : decode cX10_init 20 = .ok (.putfield 17, 3) := by decide +kernel
theorem dX10_init_23 : decode cX10_init 23 = .ok (.aload_n 0, 1) := by decide +kernel
theorem dX10_init_24 : decode cX10_init 24 = .ok (.iconst (-1), 1) := by decide +kernel
theorem dX10_init_25 : decode cX10_init 25 = .ok (.putfield 20, 3) := by decide +kernel
theorem dX10_init_28 : decode cX10_init 28 = .ok (.aload_n 0, 1) := by decide +kernel
theorem dX10_init_29 : decode cX10_init 29 = .ok (.iconst (-1), 1) := by decide +kernel
theorem dX10_init_30 : decode cX10_init 30 = .ok (.putfield 23, 3) := by decide +kernel
theorem dX10_init_33 : decode cX10_init 33 = .ok (.aload_n 0, 1) := by decide +kernel
theorem dX10_init_34 : decode cX10_init 34 = .ok (.lconst 0, 1) := by decide +kernel
theorem dX10_init_35 : decode cX10_init 35 = .ok (.putfield 26, 3) := by decide +kernel
theorem dX10_init_38 : decode cX10_init 38 = .ok (.aload_n 0, 1) := by decide +kernel
theorem dX10_init_39 : decode cX10_init 39 = .ok (.lconst 1, 1) := by decide +kernel
theorem dX10_init_40 : decode cX10_init 40 = .ok (.putfield 30, 3) := by decide +kernel
theorem dX10_init_43 : decode cX10_init 43 = .ok (.aload_n 0, 1) := by decide +kernel
theorem dX10_init_44 : decode cX10_init 44 = .ok (.new 33, 3) := by decide +kernel
theorem dX10_init_47 : decode cX10_init 47 = .ok (.dup, 1) := by decide +kernel
theorem dX10_init_48 : decode cX10_init 48 = .ok (.invokespecial 35, 3) := by decide +kernel
theorem dX10_init_51 : decode cX10_init 51 = .ok (.putfield 36, 3) := by decide +kernel
theorem dX10_init_54 : decode cX10_init 54 = .ok (.aload_n 0, 1) := by decide +kernel
theorem dX10_init_55 : decode cX10_init 55 = .ok (.new 40, 3) := by decide +kernel
theorem dX10_init_58 : decode cX10_init 58 = .ok (.dup, 1) := by decide +kernel
theorem dX10_init_59 : decode cX10_init 59 = .ok (.invokespecial 42, 3) := by decide +kernel
theorem dX10_init_62 : decode cX10_init 62 = .ok (.putfield 43, 3) := by decide +kernel
theorem dX10_init_65 : decode cX10_init 65 = .ok (.aload_n 0, 1) := by decide +kernel
theorem dX10_init_66 : decode cX10_init 66 = .ok (.new 47, 3) := by decide +kernel
theorem dX10_init_69 : decode cX10_init 69 = .ok (.dup, 1) := by decide +kernel
theorem dX10_init_70 : decode cX10_init 70 = .ok (.invokespecial 49, 3) := by decide +kernel
theorem dX10_init_73 : decode cX10_init 73 = .ok (.putfield 50, 3) := by decide +kernel
theorem dX10_init_76 : decode cX10_init 76 = .ok (.aload_n 0, 1) := by decide +kernel
theorem dX10_init_77 : decode cX10_init 77 = .ok (.new 54, 3) := by decide +kernel
theorem dX10_init_80 : decode cX10_init 80 = .ok (.dup, 1) := by decide +kernel
theorem dX10_init_81 : decode cX10_init 81 = .ok (.invokespecial 56, 3) := by decide +kernel
theorem dX10_init_84 : decode cX10_init 84 = .ok (.putfield 57, 3) := by decide +kernel
theorem dX10_init_87 : decode cX10_init 87 = .ok (.aload_n 0, 1) := by decide +kernel
theorem dX10_init_88 : decode cX10_init 88 = .ok (.iconst 0, 1) := by decide +kernel
theorem dX10_init_89 : decode cX10_init 89 = .ok (.putfield 61, 3) := by decide +kernel
theorem dX10_init_92 : decode cX10_init 92 = .ok (.aload_n 0, 1) := by decide +kernel
theorem dX10_init_93 : decode cX10_init 93 = .ok (.new 65, 3) := by decide +kernel
theorem dX10_init_96 : decode cX10_init 96 = .ok (.dup, 1) := by decide +kernel
theorem dX10_init_97 : decode cX10_init 97 = .ok (.invokespecial 67, 3) := by decide +kernel
theorem dX10_init_100 : decode cX10_init 100 = .ok (.putfield 68, 3) := by decide +kernel
theorem dX10_init_103 : decode cX10_init 103 = .ok (.aload_n 0, 1) := by decide +kernel
theorem dX10_init_104 : decode cX10_init 104 = .ok (.new 65, 3) := by decide +kernel
theorem dX10_init_107 : decode cX10_init 107 = .ok (.dup, 1) := by decide +kernel
theorem dX10_init_108 : decode cX10_init 108 = .ok (.invokespecial 67, 3) := by decide +kernel
theorem dX10_init_111 : decode cX10_init 111 = .ok (.putfield 72, 3) := by decide +kernel
theorem dX10_init_114 : decode cX10_init 114 = .ok (.aload_n 0, 1) := by decide +kernel
theorem dX10_init_115 : decode cX10_init 115 = .ok (.new 75, 3) := by decide +kernel
theorem dX10_init_118 : decode cX10_init 118 = .ok (.dup, 1) := by decide +kernel
theorem dX10_init_119 : decode cX10_init 119 = .ok (.invokespecial 77, 3) := by decide +kernel
theorem dX10_init_122 : decode cX10_init 122 = .ok (.putfield 78, 3) := by decide +kernel
theorem dX10_init_125 : decode cX10_init 125 = .ok (.aload_n 0, 1) := by decide +kernel
theorem dX10_init_126 : decode cX10_init 126 = .ok (.new 82, 3) := by decide +kernel
theorem dX10_init_129 : decode cX10_init 129 = .ok (.dup, 1) := by decide +kernel
theorem dX10_init_130 : decode cX10_init 130 = .ok (.invokespecial 84, 3) := by decide +kernel
theorem dX10_init_133 : decode cX10_init 133 = .ok (.putfield 85, 3) := by decide +kernel
theorem dX10_init_136 : decode cX10_init 136 = .ok (.aload_n 0, 1) := by decide +kernel
theorem dX10_init_137 : decode cX10_init 137 = .ok (.new 89, 3) := by decide +kernel
theorem dX10_init_140 : decode cX10_init 140 = .ok (.dup, 1) := by decide +kernel
theorem dX10_init_141 : decode cX10_init 141 = .ok (.invokespecial 91, 3) := by decide +kernel
theorem dX10_init_144 : decode cX10_init 144 = .ok (.putfield 92, 3) := by decide +kernel
theorem dX10_init_147 : decode cX10_init 147 = .ok (.aload_n 0, 1) := by decide +kernel
theorem dX10_init_148 : decode cX10_init 148 = .ok (.new 96, 3) := by decide +kernel
theorem dX10_init_151 : decode cX10_init 151 = .ok (.dup, 1) := by decide +kernel
theorem dX10_init_152 : decode cX10_init 152 = .ok (.invokespecial 98, 3) := by decide +kernel
theorem dX10_init_155 : decode cX10_init 155 = .ok (.putfield 99, 3) := by decide +kernel
theorem dX10_init_158 : decode cX10_init 158 = .ok (.aload_n 0, 1) := by decide +kernel
theorem dX10_init_159 : decode cX10_init 159 = .ok (.iconst 3, 1) := by decide +kernel
theorem dX10_init_160 : decode cX10_init 160 = .ok (.anewarray 103, 3) := by decide +kernel
theorem dX10_init_163 : decode cX10_init 163 = .ok (.putfield 105, 3) := by decide +kernel
theorem dX10_init_166 : decode cX10_init 166 = .ok (.aload_n 0, 1) := by decide +kernel
theorem dX10_init_167 : decode cX10_init 167 = .ok (.iconst 0, 1) := by decide +kernel
theorem dX10_init_168 : decode cX10_init 168 = .ok (.putfield 109, 3) := by decide +kernel
theorem dX10_init_171 : decode cX10_init 171 = .ok (.iconst 0, 1) := by decide +kernel
theorem dX10_init_172 : decode cX10_init 172 = .ok (.istore_n 1, 1) := by decide +kernel
theorem dX10_init_173 : decode cX10_init 173 = .ok (.iload_n 1, 1) := by decide +kernel
theorem dX10_init_174 : decode cX10_init 174 = .ok (.iconst 3, 1) := by decide +kernel
theorem dX10_init_175 : decode cX10_init 175 = .ok (.if_icmp .ge 22, 3) := by decide +kernel
theorem dX10_init_178 : decode cX10_init 178 = .ok (.aload_n 0, 1) := by decide +kernel
theorem dX10_init_179 : decode cX10_init 179 = .ok (.getfield 105, 3) := by decide +kernel
theorem dX10_init_182 : decode cX10_init 182 = .ok (.iload_n 1, 1) := by decide +kernel
theorem dX10_init_183 : decode cX10_init 183 = .ok (.new 103, 3) := by decide +kernel
theorem dX10_init_186 : decode cX10_init 186 = .ok (.dup, 1) := by decide +kernel
theorem dX10_init_187 : decode cX10_init 187 = .ok (.invokespecial 112, 3) := by decide +kernel
theorem dX10_init_190 : decode cX10_init 190 = .ok (.aastore, 1) := by decide +kernel
theorem dX10_init_191 : decode cX10_init 191 = .ok (.iinc 1 1, 3) := by decide +kernel
theorem dX10_init_194 : decode cX10_init 194 = .ok (.goto (-21), 3) := by decide +kernel
theorem dX10_init_197 : decode cX10_init 197 = .ok (.return_, 1) := by decide +kernel
theorem dX10_answer_0 : decode cX10_answer 0 = .ok (.aload_n 0, 1) := by decide +kernel
theorem dX10_answer_1 : decode cX10_answer 1 = .ok (.iconst 0, 1) := by decide +kernel
theorem dX10_answer_2 : decode cX10_answer 2 = .ok (.putfield 17, 3) := by decide +kernel
theorem dX10_answer_5 : decode cX10_answer 5 = .ok (.iload_n 1, 1) := by decide +kernel
theorem dX10_answer_6 : decode cX10_answer 6 = .ok (.ireturn, 1) := by decide +kernel
theorem dX10_refuse_0 : decode cX10_refuse 0 = .ok (.aload_n 0, 1) := by decide +kernel
theorem dX10_refuse_1 : decode cX10_refuse 1 = .ok (.iload_n 1, 1) := by decide +kernel
theorem dX10_refuse_2 : decode cX10_refuse 2 = .ok (.putfield 17, 3) := by decide +kernel
theorem dX10_refuse_5 : decode cX10_refuse 5 = .ok (.iconst (-1), 1) := by decide +kernel
theorem dX10_refuse_6 : decode cX10_refuse 6 = .ok (.ireturn, 1) := by decide +kernel
theorem dX10_did_0 : decode cX10_did 0 = .ok (.aload_n 0, 1) := by decide +kernel
theorem dX10_did_1 : decode cX10_did 1 = .ok (.iconst 0, 1) := by decide +kernel
theorem dX10_did_2 : decode cX10_did 2 = .ok (.putfield 17, 3) := by decide +kernel
theorem dX10_did_5 : decode cX10_did 5 = .ok (.iconst 1, 1) := by decide +kernel
theorem dX10_did_6 : decode cX10_did 6 = .ok (.ireturn, 1) := by decide +kernel
theorem dX10_didNot_0 : decode cX10_didNot 0 = .ok (.aload_n 0, 1) := by decide +kernel
theorem dX10_didNot_1 : decode cX10_didNot 1 = .ok (.iload_n 1, 1) := by decide +kernel
theorem dX10_didNot_2 : decode cX10_didNot 2 = .ok (.putfield 17, 3) := by decide +kernel
theorem dX10_didNot_5 : decode cX10_didNot 5 = .ok (.iconst 0, 1) := by decide +kernel
theorem dX10_didNot_6 : decode cX10_didNot 6 = .ok (.ireturn, 1) := by decide +kernel
theorem dX10_answerOr_0 : decode cX10_answerOr 0 = .ok (.iload_n 1, 1) := by decide +kernel
theorem dX10_answerOr_1 : decode cX10_answerOr 1 = .ok (.ifCond .eq 11, 3) := by decide +kernel
theorem dX10_answerOr_4 : decode cX10_answerOr 4 = .ok (.aload_n 0, 1) := by decide +kernel
theorem dX10_answerOr_5 : decode cX10_answerOr 5 = .ok (.iload_n 2, 1) := by decide +kernel
theorem dX10_answerOr_6 : decode cX10_answerOr 6 = .ok (.invokevirtual 113, 3) := by decide +kernel
theorem dX10_answerOr_9 : decode cX10_answerOr 9 = .ok (.goto 8, 3) := by decide +kernel
theorem dX10_answerOr_12 : decode cX10_answerOr 12 = .ok (.aload_n 0, 1) := by decide +kernel
theorem dX10_answerOr_13 : decode cX10_answerOr 13 = .ok (.iload_n 3, 1) := by decide +kernel
theorem dX10_answerOr_14 : decode cX10_answerOr 14 = .ok (.invokevirtual 117, 3) := by decide +kernel
theorem dX10_answerOr_17 : decode cX10_answerOr 17 = .ok (.ireturn, 1) := by decide +kernel
theorem dX10_status_0 : decode cX10_status 0 = .ok (.aload_n 0, 1) := by decide +kernel
theorem dX10_status_1 : decode cX10_status 1 = .ok (.getfield 17, 3) := by decide +kernel
theorem dX10_status_4 : decode cX10_status 4 = .ok (.ireturn, 1) := by decide +kernel
theorem dX10_top_0 : decode cX10_top 0 = .ok (.aload_n 0, 1) := by decide +kernel
theorem dX10_top_1 : decode cX10_top 1 = .ok (.getfield 26, 3) := by decide +kernel
theorem dX10_top_4 : decode cX10_top 4 = .ok (.lreturn, 1) := by decide +kernel
theorem dX10_bottom_0 : decode cX10_bottom 0 = .ok (.aload_n 0, 1) := by decide +kernel
theorem dX10_bottom_1 : decode cX10_bottom 1 = .ok (.getfield 30, 3) := by decide +kernel
theorem dX10_bottom_4 : decode cX10_bottom 4 = .ok (.lreturn, 1) := by decide +kernel
theorem dX10_tray_0 : decode cX10_tray 0 = .ok (.aload_n 0, 1) := by decide +kernel
theorem dX10_tray_1 : decode cX10_tray 1 = .ok (.getfield 36, 3) := by decide +kernel
theorem dX10_tray_4 : decode cX10_tray 4 = .ok (.iload_n 1, 1) := by decide +kernel
theorem dX10_tray_5 : decode cX10_tray 5 = .ok (.invokevirtual 120, 3) := by decide +kernel
theorem dX10_tray_8 : decode cX10_tray 8 = .ok (.ifCond .eq 24, 3) := by decide +kernel
theorem dX10_tray_11 : decode cX10_tray 11 = .ok (.aload_n 0, 1) := by decide +kernel
theorem dX10_tray_12 : decode cX10_tray 12 = .ok (.getfield 36, 3) := by decide +kernel
theorem dX10_tray_15 : decode cX10_tray 15 = .ok (.iload_n 2, 1) := by decide +kernel
theorem dX10_tray_16 : decode cX10_tray 16 = .ok (.invokevirtual 124, 3) := by decide +kernel
theorem dX10_tray_19 : decode cX10_tray 19 = .ok (.ifCond .eq 13, 3) := by decide +kernel
theorem dX10_tray_22 : decode cX10_tray 22 = .ok (.iload_n 3, 1) := by decide +kernel
theorem dX10_tray_23 : decode cX10_tray 23 = .ok (.ifCond .lt 9, 3) := by decide +kernel
theorem dX10_tray_26 : decode cX10_tray 26 = .ok (.iload_n 3, 1) := by decide +kernel
theorem dX10_tray_27 : decode cX10_tray 27 = .ok (.bipush 60, 2) := by decide +kernel
theorem dX10_tray_29 : decode cX10_tray 29 = .ok (.if_icmp .le 9, 3) := by decide +kernel
theorem dX10_tray_32 : decode cX10_tray 32 = .ok (.aload_n 0, 1) := by decide +kernel
theorem dX10_tray_33 : decode cX10_tray 33 = .ok (.iconst 1, 1) := by decide +kernel
theorem dX10_tray_34 : decode cX10_tray 34 = .ok (.invokevirtual 127, 3) := by decide +kernel
theorem dX10_tray_37 : decode cX10_tray 37 = .ok (.ireturn, 1) := by decide +kernel
theorem dX10_tray_38 : decode cX10_tray 38 = .ok (.aload_n 0, 1) := by decide +kernel
theorem dX10_tray_39 : decode cX10_tray 39 = .ok (.getfield 36, 3) := by decide +kernel
theorem dX10_tray_42 : decode cX10_tray 42 = .ok (.iload_n 1, 1) := by decide +kernel
theorem dX10_tray_43 : decode cX10_tray 43 = .ok (.iload_n 2, 1) := by decide +kernel
theorem dX10_tray_44 : decode cX10_tray 44 = .ok (.iload_n 3, 1) := by decide +kernel
theorem dX10_tray_45 : decode cX10_tray 45 = .ok (.invokevirtual 130, 3) := by decide +kernel
theorem dX10_tray_48 : decode cX10_tray 48 = .ok (.aload_n 0, 1) := by decide +kernel
theorem dX10_tray_49 : decode cX10_tray 49 = .ok (.invokevirtual 134, 3) := by decide +kernel
theorem dX10_tray_52 : decode cX10_tray 52 = .ok (.ireturn, 1) := by decide +kernel
theorem dX10_write_0 : decode cX10_write 0 = .ok (.aload_n 0, 1) := by decide +kernel
theorem dX10_write_1 : decode cX10_write 1 = .ok (.getfield 36, 3) := by decide +kernel
theorem dX10_write_4 : decode cX10_write 4 = .ok (.iload_n 1, 1) := by decide +kernel
theorem dX10_write_5 : decode cX10_write 5 = .ok (.iload_n 2, 1) := by decide +kernel
theorem dX10_write_6 : decode cX10_write 6 = .ok (.invokevirtual 138, 3) := by decide +kernel
theorem dX10_write_9 : decode cX10_write 9 = .ok (.istore 5, 2) := by decide +kernel
theorem dX10_write_11 : decode cX10_write 11 = .ok (.iload 5, 2) := by decide +kernel
theorem dX10_write_13 : decode cX10_write 13 = .ok (.ifCond .eq 10, 3) := by decide +kernel
theorem dX10_write_16 : decode cX10_write 16 = .ok (.aload_n 0, 1) := by decide +kernel
theorem dX10_write_17 : decode cX10_write 17 = .ok (.iload 5, 2) := by decide +kernel
theorem dX10_write_19 : decode cX10_write 19 = .ok (.invokevirtual 127, 3) := by decide +kernel
theorem dX10_write_22 : decode cX10_write 22 = .ok (.ireturn, 1) := by decide +kernel
theorem dX10_write_23 : decode cX10_write 23 = .ok (.aload_n 0, 1) := by decide +kernel
theorem dX10_write_24 : decode cX10_write 24 = .ok (.getfield 36, 3) := by decide +kernel
theorem dX10_write_27 : decode cX10_write 27 = .ok (.iload_n 1, 1) := by decide +kernel
theorem dX10_write_28 : decode cX10_write 28 = .ok (.iload_n 2, 1) := by decide +kernel
theorem dX10_write_29 : decode cX10_write 29 = .ok (.lload_n 3, 1) := by decide +kernel
theorem dX10_write_30 : decode cX10_write 30 = .ok (.invokevirtual 142, 3) := by decide +kernel
theorem dX10_write_33 : decode cX10_write 33 = .ok (.aload_n 0, 1) := by decide +kernel
theorem dX10_write_34 : decode cX10_write 34 = .ok (.invokevirtual 134, 3) := by decide +kernel
theorem dX10_write_37 : decode cX10_write 37 = .ok (.ireturn, 1) := by decide +kernel
theorem dX10_read_0 : decode cX10_read 0 = .ok (.aload_n 0, 1) := by decide +kernel
theorem dX10_read_1 : decode cX10_read 1 = .ok (.getfield 36, 3) := by decide +kernel
theorem dX10_read_4 : decode cX10_read 4 = .ok (.iload_n 1, 1) := by decide +kernel
theorem dX10_read_5 : decode cX10_read 5 = .ok (.iload_n 2, 1) := by decide +kernel
theorem dX10_read_6 : decode cX10_read 6 = .ok (.invokevirtual 138, 3) := by decide +kernel
theorem dX10_read_9 : decode cX10_read 9 = .ok (.istore_n 3, 1) := by decide +kernel
theorem dX10_read_10 : decode cX10_read 10 = .ok (.iload_n 3, 1) := by decide +kernel
theorem dX10_read_11 : decode cX10_read 11 = .ok (.ifCond .eq 10, 3) := by decide +kernel
theorem dX10_read_14 : decode cX10_read 14 = .ok (.aload_n 0, 1) := by decide +kernel
theorem dX10_read_15 : decode cX10_read 15 = .ok (.iload_n 3, 1) := by decide +kernel
theorem dX10_read_16 : decode cX10_read 16 = .ok (.invokevirtual 117, 3) := by decide +kernel
theorem dX10_read_19 : decode cX10_read 19 = .ok (.i2l, 1) := by decide +kernel
theorem dX10_read_20 : decode cX10_read 20 = .ok (.lreturn, 1) := by decide +kernel
theorem dX10_read_21 : decode cX10_read 21 = .ok (.aload_n 0, 1) := by decide +kernel
theorem dX10_read_22 : decode cX10_read 22 = .ok (.iconst 0, 1) := by decide +kernel
theorem dX10_read_23 : decode cX10_read 23 = .ok (.putfield 17, 3) := by decide +kernel
theorem dX10_read_26 : decode cX10_read 26 = .ok (.aload_n 0, 1) := by decide +kernel
theorem dX10_read_27 : decode cX10_read 27 = .ok (.getfield 36, 3) := by decide +kernel
theorem dX10_read_30 : decode cX10_read 30 = .ok (.iload_n 1, 1) := by decide +kernel
theorem dX10_read_31 : decode cX10_read 31 = .ok (.iload_n 2, 1) := by decide +kernel
theorem dX10_read_32 : decode cX10_read 32 = .ok (.invokevirtual 146, 3) := by decide +kernel
theorem dX10_read_35 : decode cX10_read 35 = .ok (.lreturn, 1) := by decide +kernel
theorem dX10_pour_0 : decode cX10_pour 0 = .ok (.aload_n 0, 1) := by decide +kernel
theorem dX10_pour_1 : decode cX10_pour 1 = .ok (.getfield 36, 3) := by decide +kernel
theorem dX10_pour_4 : decode cX10_pour 4 = .ok (.iload_n 1, 1) := by decide +kernel
theorem dX10_pour_5 : decode cX10_pour 5 = .ok (.invokevirtual 120, 3) := by decide +kernel
theorem dX10_pour_8 : decode cX10_pour 8 = .ok (.ifCond .eq 28, 3) := by decide +kernel
theorem dX10_pour_11 : decode cX10_pour 11 = .ok (.aload_n 0, 1) := by decide +kernel
theorem dX10_pour_12 : decode cX10_pour 12 = .ok (.getfield 36, 3) := by decide +kernel
theorem dX10_pour_15 : decode cX10_pour 15 = .ok (.iload_n 3, 1) := by decide +kernel
theorem dX10_pour_16 : decode cX10_pour 16 = .ok (.invokevirtual 120, 3) := by decide +kernel
theorem dX10_pour_19 : decode cX10_pour 19 = .ok (.ifCond .eq 17, 3) := by decide +kernel
theorem dX10_pour_22 : decode cX10_pour 22 = .ok (.iload_n 2, 1) := by decide +kernel
theorem dX10_pour_23 : decode cX10_pour 23 = .ok (.ifCond .lt 13, 3) := by decide +kernel
theorem dX10_pour_26 : decode cX10_pour 26 = .ok (.iload 4, 2) := by decide +kernel
theorem dX10_pour_28 : decode cX10_pour 28 = .ok (.ifCond .lt 8, 3) := by decide +kernel
theorem dX10_pour_31 : decode cX10_pour 31 = .ok (.iload 5, 2) := by decide +kernel
theorem dX10_pour_33 : decode cX10_pour 33 = .ok (.ifCond .ge 9, 3) := by decide +kernel
theorem dX10_pour_36 : decode cX10_pour 36 = .ok (.aload_n 0, 1) := by decide +kernel
theorem dX10_pour_37 : decode cX10_pour 37 = .ok (.iconst 1, 1) := by decide +kernel
theorem dX10_pour_38 : decode cX10_pour 38 = .ok (.invokevirtual 127, 3) := by decide +kernel
theorem dX10_pour_41 : decode cX10_pour 41 = .ok (.ireturn, 1) := by decide +kernel
theorem dX10_pour_42 : decode cX10_pour 42 = .ok (.aload_n 0, 1) := by decide +kernel
theorem dX10_pour_43 : decode cX10_pour 43 = .ok (.getfield 36, 3) := by decide +kernel
theorem dX10_pour_46 : decode cX10_pour 46 = .ok (.iload_n 1, 1) := by decide +kernel
theorem dX10_pour_47 : decode cX10_pour 47 = .ok (.invokevirtual 150, 3) := by decide +kernel
theorem dX10_pour_50 : decode cX10_pour 50 = .ok (.ifCond .ne 14, 3) := by decide +kernel
theorem dX10_pour_53 : decode cX10_pour 53 = .ok (.aload_n 0, 1) := by decide +kernel
theorem dX10_pour_54 : decode cX10_pour 54 = .ok (.getfield 36, 3) := by decide +kernel
theorem dX10_pour_57 : decode cX10_pour 57 = .ok (.iload_n 3, 1) := by decide +kernel
theorem dX10_pour_58 : decode cX10_pour 58 = .ok (.invokevirtual 150, 3) := by decide +kernel
theorem dX10_pour_61 : decode cX10_pour 61 = .ok (.ifCond .eq 9, 3) := by decide +kernel
theorem dX10_pour_64 : decode cX10_pour 64 = .ok (.aload_n 0, 1) := by decide +kernel
theorem dX10_pour_65 : decode cX10_pour 65 = .ok (.iconst 2, 1) := by decide +kernel
theorem dX10_pour_66 : decode cX10_pour 66 = .ok (.invokevirtual 127, 3) := by decide +kernel
theorem dX10_pour_69 : decode cX10_pour 69 = .ok (.ireturn, 1) := by decide +kernel
theorem dX10_pour_70 : decode cX10_pour 70 = .ok (.aload_n 0, 1) := by decide +kernel
theorem dX10_pour_71 : decode cX10_pour 71 = .ok (.getfield 36, 3) := by decide +kernel
theorem dX10_pour_74 : decode cX10_pour 74 = .ok (.iload_n 1, 1) := by decide +kernel
theorem dX10_pour_75 : decode cX10_pour 75 = .ok (.invokevirtual 153, 3) := by decide +kernel
theorem dX10_pour_78 : decode cX10_pour 78 = .ok (.aload_n 0, 1) := by decide +kernel
theorem dX10_pour_79 : decode cX10_pour 79 = .ok (.getfield 36, 3) := by decide +kernel
theorem dX10_pour_82 : decode cX10_pour 82 = .ok (.iload_n 3, 1) := by decide +kernel
theorem dX10_pour_83 : decode cX10_pour 83 = .ok (.invokevirtual 153, 3) := by decide +kernel
theorem dX10_pour_86 : decode cX10_pour 86 = .ok (.if_icmp .eq 10, 3) := by decide +kernel
theorem dX10_pour_89 : decode cX10_pour 89 = .ok (.aload_n 0, 1) := by decide +kernel
theorem dX10_pour_90 : decode cX10_pour 90 = .ok (.bipush 8, 2) := by decide +kernel
theorem dX10_pour_92 : decode cX10_pour 92 = .ok (.invokevirtual 127, 3) := by decide +kernel
theorem dX10_pour_95 : decode cX10_pour 95 = .ok (.ireturn, 1) := by decide +kernel
theorem dX10_pour_96 : decode cX10_pour 96 = .ok (.aload_n 0, 1) := by decide +kernel
theorem dX10_pour_97 : decode cX10_pour 97 = .ok (.getfield 36, 3) := by decide +kernel
theorem dX10_pour_100 : decode cX10_pour 100 = .ok (.iload_n 1, 1) := by decide +kernel
theorem dX10_pour_101 : decode cX10_pour 101 = .ok (.iload_n 2, 1) := by decide +kernel
theorem dX10_pour_102 : decode cX10_pour 102 = .ok (.iload 5, 2) := by decide +kernel
theorem dX10_pour_104 : decode cX10_pour 104 = .ok (.invokevirtual 156, 3) := by decide +kernel
theorem dX10_pour_107 : decode cX10_pour 107 = .ok (.ifCond .eq 18, 3) := by decide +kernel
theorem dX10_pour_110 : decode cX10_pour 110 = .ok (.aload_n 0, 1) := by decide +kernel
theorem dX10_pour_111 : decode cX10_pour 111 = .ok (.getfield 36, 3) := by decide +kernel
theorem dX10_pour_114 : decode cX10_pour 114 = .ok (.iload_n 3, 1) := by decide +kernel
theorem dX10_pour_115 : decode cX10_pour 115 = .ok (.iload 4, 2) := by decide +kernel
theorem dX10_pour_117 : decode cX10_pour 117 = .ok (.iload 5, 2) := by decide +kernel
theorem dX10_pour_119 : decode cX10_pour 119 = .ok (.invokevirtual 156, 3) := by decide +kernel
theorem dX10_pour_122 : decode cX10_pour 122 = .ok (.ifCond .ne 9, 3) := by decide +kernel
theorem dX10_pour_125 : decode cX10_pour 125 = .ok (.aload_n 0, 1) := by decide +kernel
theorem dX10_pour_126 : decode cX10_pour 126 = .ok (.iconst 3, 1) := by decide +kernel
theorem dX10_pour_127 : decode cX10_pour 127 = .ok (.invokevirtual 127, 3) := by decide +kernel
theorem dX10_pour_130 : decode cX10_pour 130 = .ok (.ireturn, 1) := by decide +kernel
theorem dX10_pour_131 : decode cX10_pour 131 = .ok (.aload_n 0, 1) := by decide +kernel
theorem dX10_pour_132 : decode cX10_pour 132 = .ok (.getfield 36, 3) := by decide +kernel
theorem dX10_pour_135 : decode cX10_pour 135 = .ok (.iload_n 1, 1) := by decide +kernel
theorem dX10_pour_136 : decode cX10_pour 136 = .ok (.iload_n 2, 1) := by decide +kernel
theorem dX10_pour_137 : decode cX10_pour 137 = .ok (.iload_n 3, 1) := by decide +kernel
theorem dX10_pour_138 : decode cX10_pour 138 = .ok (.iload 4, 2) := by decide +kernel
theorem dX10_pour_140 : decode cX10_pour 140 = .ok (.iload 5, 2) := by decide +kernel
theorem dX10_pour_142 : decode cX10_pour 142 = .ok (.invokevirtual 160, 3) := by decide +kernel
theorem dX10_pour_145 : decode cX10_pour 145 = .ok (.aload_n 0, 1) := by decide +kernel
theorem dX10_pour_146 : decode cX10_pour 146 = .ok (.invokevirtual 134, 3) := by decide +kernel
theorem dX10_pour_149 : decode cX10_pour 149 = .ok (.ireturn, 1) := by decide +kernel
theorem dX10_feed_0 : decode cX10_feed 0 = .ok (.aload_n 0, 1) := by decide +kernel
theorem dX10_feed_1 : decode cX10_feed 1 = .ok (.getfield 13, 3) := by decide +kernel
theorem dX10_feed_4 : decode cX10_feed 4 = .ok (.bipush 20, 2) := by decide +kernel
theorem dX10_feed_6 : decode cX10_feed 6 = .ok (.iadd, 1) := by decide +kernel
theorem dX10_feed_7 : decode cX10_feed 7 = .ok (.sipush 900, 3) := by decide +kernel
theorem dX10_feed_10 : decode cX10_feed 10 = .ok (.if_icmp .le 5, 3) := by decide +kernel
theorem dX10_feed_13 : decode cX10_feed 13 = .ok (.iconst (-1), 1) := by decide +kernel
theorem dX10_feed_14 : decode cX10_feed 14 = .ok (.ireturn, 1) := by decide +kernel
theorem dX10_feed_15 : decode cX10_feed 15 = .ok (.aload_n 0, 1) := by decide +kernel
theorem dX10_feed_16 : decode cX10_feed 16 = .ok (.iload_n 1, 1) := by decide +kernel
theorem dX10_feed_17 : decode cX10_feed 17 = .ok (.invokevirtual 164, 3) := by decide +kernel
theorem dX10_feed_20 : decode cX10_feed 20 = .ok (.aload_n 0, 1) := by decide +kernel
theorem dX10_feed_21 : decode cX10_feed 21 = .ok (.iload_n 2, 1) := by decide +kernel
theorem dX10_feed_22 : decode cX10_feed 22 = .ok (.invokevirtual 164, 3) := by decide +kernel
theorem dX10_feed_25 : decode cX10_feed 25 = .ok (.aload_n 0, 1) := by decide +kernel
theorem dX10_feed_26 : decode cX10_feed 26 = .ok (.iload_n 3, 1) := by decide +kernel
theorem dX10_feed_27 : decode cX10_feed 27 = .ok (.invokevirtual 164, 3) := by decide +kernel
theorem dX10_feed_30 : decode cX10_feed 30 = .ok (.aload_n 0, 1) := by decide +kernel
theorem dX10_feed_31 : decode cX10_feed 31 = .ok (.iload 4, 2) := by decide +kernel
theorem dX10_feed_33 : decode cX10_feed 33 = .ok (.invokevirtual 164, 3) := by decide +kernel
theorem dX10_feed_36 : decode cX10_feed 36 = .ok (.aload_n 0, 1) := by decide +kernel
theorem dX10_feed_37 : decode cX10_feed 37 = .ok (.iload 5, 2) := by decide +kernel
theorem dX10_feed_39 : decode cX10_feed 39 = .ok (.invokevirtual 164, 3) := by decide +kernel
theorem dX10_feed_42 : decode cX10_feed 42 = .ok (.aload_n 0, 1) := by decide +kernel
theorem dX10_feed_43 : decode cX10_feed 43 = .ok (.getfield 13, 3) := by decide +kernel
theorem dX10_feed_46 : decode cX10_feed 46 = .ok (.ireturn, 1) := by decide +kernel
theorem dX10_feedInt_0 : decode cX10_feedInt 0 = .ok (.bipush 24, 2) := by decide +kernel
theorem dX10_feedInt_2 : decode cX10_feedInt 2 = .ok (.istore_n 2, 1) := by decide +kernel
theorem dX10_feedInt_3 : decode cX10_feedInt 3 = .ok (.iload_n 2, 1) := by decide +kernel
theorem dX10_feedInt_4 : decode cX10_feedInt 4 = .ok (.ifCond .lt 45, 3) := by decide +kernel
theorem dX10_feedInt_7 : decode cX10_feedInt 7 = .ok (.aload_n 0, 1) := by decide +kernel
theorem dX10_feedInt_8 : decode cX10_feedInt 8 = .ok (.getfield 13, 3) := by decide +kernel
theorem dX10_feedInt_11 : decode cX10_feedInt 11 = .ok (.sipush 900, 3) := by decide +kernel
theorem dX10_feedInt_14 : decode cX10_feedInt 14 = .ok (.if_icmp .ge 29, 3) := by decide +kernel
theorem dX10_feedInt_17 : decode cX10_feedInt 17 = .ok (.aload_n 0, 1) := by decide +kernel
theorem dX10_feedInt_18 : decode cX10_feedInt 18 = .ok (.getfield 9, 3) := by decide +kernel
theorem dX10_feedInt_21 : decode cX10_feedInt 21 = .ok (.aload_n 0, 1) := by decide +kernel
theorem dX10_feedInt_22 : decode cX10_feedInt 22 = .ok (.getfield 13, 3) := by decide +kernel
theorem dX10_feedInt_25 : decode cX10_feedInt 25 = .ok (.iload_n 1, 1) := by decide +kernel
theorem dX10_feedInt_26 : decode cX10_feedInt 26 = .ok (.iload_n 2, 1) := by decide +kernel
theorem dX10_feedInt_27 : decode cX10_feedInt 27 = .ok (.iushr, 1) := by decide +kernel
theorem dX10_feedInt_28 : decode cX10_feedInt 28 = .ok (.sipush 255, 3) := by decide +kernel
theorem dX10_feedInt_31 : decode cX10_feedInt 31 = .ok (.iand, 1) := by decide +kernel
theorem dX10_feedInt_32 : decode cX10_feedInt 32 = .ok (.iastore, 1) := by decide +kernel
theorem dX10_feedInt_33 : decode cX10_feedInt 33 = .ok (.aload_n 0, 1) := by decide +kernel
theorem dX10_feedInt_34 : decode cX10_feedInt 34 = .ok (.dup, 1) := by decide +kernel
theorem dX10_feedInt_35 : decode cX10_feedInt 35 = .ok (.getfield 13, 3) := by decide +kernel
theorem dX10_feedInt_38 : decode cX10_feedInt 38 = .ok (.iconst 1, 1) := by decide +kernel
theorem dX10_feedInt_39 : decode cX10_feedInt 39 = .ok (.iadd, 1) := by decide +kernel
theorem dX10_feedInt_40 : decode cX10_feedInt 40 = .ok (.putfield 13, 3) := by decide +kernel
theorem dX10_feedInt_43 : decode cX10_feedInt 43 = .ok (.iinc 2 (-8), 3) := by decide +kernel
theorem dX10_feedInt_46 : decode cX10_feedInt 46 = .ok (.goto (-43), 3) := by decide +kernel
theorem dX10_feedInt_49 : decode cX10_feedInt 49 = .ok (.return_, 1) := by decide +kernel
theorem dX10_press_0 : decode cX10_press 0 = .ok (.iload_n 1, 1) := by decide +kernel
theorem dX10_press_1 : decode cX10_press 1 = .ok (.ifCond .lt 11, 3) := by decide +kernel
theorem dX10_press_4 : decode cX10_press 4 = .ok (.iload_n 1, 1) := by decide +kernel
theorem dX10_press_5 : decode cX10_press 5 = .ok (.aload_n 0, 1) := by decide +kernel
theorem dX10_press_6 : decode cX10_press 6 = .ok (.getfield 13, 3) := by decide +kernel
theorem dX10_press_9 : decode cX10_press 9 = .ok (.if_icmp .le 9, 3) := by decide +kernel
theorem dX10_press_12 : decode cX10_press 12 = .ok (.aload_n 0, 1) := by decide +kernel
theorem dX10_press_13 : decode cX10_press 13 = .ok (.iconst 1, 1) := by decide +kernel
theorem dX10_press_14 : decode cX10_press 14 = .ok (.invokevirtual 117, 3) := by decide +kernel
theorem dX10_press_17 : decode cX10_press 17 = .ok (.ireturn, 1) := by decide +kernel
theorem dX10_press_18 : decode cX10_press 18 = .ok (.aload_n 0, 1) := by decide +kernel
theorem dX10_press_19 : decode cX10_press 19 = .ok (.getfield 43, 3) := by decide +kernel
theorem dX10_press_22 : decode cX10_press 22 = .ok (.aload_n 0, 1) := by decide +kernel
theorem dX10_press_23 : decode cX10_press 23 = .ok (.getfield 9, 3) := by decide +kernel
theorem dX10_press_26 : decode cX10_press 26 = .ok (.iload_n 1, 1) := by decide +kernel
theorem dX10_press_27 : decode cX10_press 27 = .ok (.invokevirtual 168, 3) := by decide +kernel
theorem dX10_press_30 : decode cX10_press 30 = .ok (.istore_n 2, 1) := by decide +kernel
theorem dX10_press_31 : decode cX10_press 31 = .ok (.aload_n 0, 1) := by decide +kernel
theorem dX10_press_32 : decode cX10_press 32 = .ok (.iconst 0, 1) := by decide +kernel
theorem dX10_press_33 : decode cX10_press 33 = .ok (.putfield 13, 3) := by decide +kernel
theorem dX10_press_36 : decode cX10_press 36 = .ok (.aload_n 0, 1) := by decide +kernel
theorem dX10_press_37 : decode cX10_press 37 = .ok (.aload_n 0, 1) := by decide +kernel
theorem dX10_press_38 : decode cX10_press 38 = .ok (.getfield 43, 3) := by decide +kernel
theorem dX10_press_41 : decode cX10_press 41 = .ok (.getfield 172, 3) := by decide +kernel
theorem dX10_press_44 : decode cX10_press 44 = .ok (.putfield 20, 3) := by decide +kernel
theorem dX10_press_47 : decode cX10_press 47 = .ok (.aload_n 0, 1) := by decide +kernel
theorem dX10_press_48 : decode cX10_press 48 = .ok (.aload_n 0, 1) := by decide +kernel
theorem dX10_press_49 : decode cX10_press 49 = .ok (.getfield 43, 3) := by decide +kernel
theorem dX10_press_52 : decode cX10_press 52 = .ok (.getfield 173, 3) := by decide +kernel
theorem dX10_press_55 : decode cX10_press 55 = .ok (.putfield 23, 3) := by decide +kernel
theorem dX10_press_58 : decode cX10_press 58 = .ok (.iload_n 2, 1) := by decide +kernel
theorem dX10_press_59 : decode cX10_press 59 = .ok (.ifCond .ne 10, 3) := by decide +kernel
theorem dX10_press_62 : decode cX10_press 62 = .ok (.aload_n 0, 1) := by decide +kernel
theorem dX10_press_63 : decode cX10_press 63 = .ok (.bipush 9, 2) := by decide +kernel
theorem dX10_press_65 : decode cX10_press 65 = .ok (.invokevirtual 117, 3) := by decide +kernel
theorem dX10_press_68 : decode cX10_press 68 = .ok (.ireturn, 1) := by decide +kernel
theorem dX10_press_69 : decode cX10_press 69 = .ok (.aload_n 0, 1) := by decide +kernel
theorem dX10_press_70 : decode cX10_press 70 = .ok (.getfield 50, 3) := by decide +kernel
theorem dX10_press_73 : decode cX10_press 73 = .ok (.aload_n 0, 1) := by decide +kernel
theorem dX10_press_74 : decode cX10_press 74 = .ok (.getfield 43, 3) := by decide +kernel
theorem dX10_press_77 : decode cX10_press 77 = .ok (.getfield 176, 3) := by decide +kernel
theorem dX10_press_80 : decode cX10_press 80 = .ok (.invokevirtual 177, 3) := by decide +kernel
theorem dX10_press_83 : decode cX10_press 83 = .ok (.aload_n 0, 1) := by decide +kernel
theorem dX10_press_84 : decode cX10_press 84 = .ok (.iconst 0, 1) := by decide +kernel
theorem dX10_press_85 : decode cX10_press 85 = .ok (.putfield 61, 3) := by decide +kernel
theorem dX10_press_88 : decode cX10_press 88 = .ok (.aload_n 0, 1) := by decide +kernel
theorem dX10_press_89 : decode cX10_press 89 = .ok (.aload_n 0, 1) := by decide +kernel
theorem dX10_press_90 : decode cX10_press 90 = .ok (.getfield 50, 3) := by decide +kernel
theorem dX10_press_93 : decode cX10_press 93 = .ok (.getfield 181, 3) := by decide +kernel
theorem dX10_press_96 : decode cX10_press 96 = .ok (.invokevirtual 113, 3) := by decide +kernel
theorem dX10_press_99 : decode cX10_press 99 = .ok (.ireturn, 1) := by decide +kernel
theorem dX10_writing_0 : decode cX10_writing 0 = .ok (.iload_n 1, 1) := by decide +kernel
theorem dX10_writing_1 : decode cX10_writing 1 = .ok (.ifCond .lt 18, 3) := by decide +kernel
theorem dX10_writing_4 : decode cX10_writing 4 = .ok (.iload_n 1, 1) := by decide +kernel
theorem dX10_writing_5 : decode cX10_writing 5 = .ok (.aload_n 0, 1) := by decide +kernel
theorem dX10_writing_6 : decode cX10_writing 6 = .ok (.getfield 13, 3) := by decide +kernel
theorem dX10_writing_9 : decode cX10_writing 9 = .ok (.if_icmp .gt 10, 3) := by decide +kernel
theorem dX10_writing_12 : decode cX10_writing 12 = .ok (.iload_n 1, 1) := by decide +kernel
theorem dX10_writing_13 : decode cX10_writing 13 = .ok (.sipush 300, 3) := by decide +kernel
theorem dX10_writing_16 : decode cX10_writing 16 = .ok (.if_icmp .le 9, 3) := by decide +kernel
theorem dX10_writing_19 : decode cX10_writing 19 = .ok (.aload_n 0, 1) := by decide +kernel
theorem dX10_writing_20 : decode cX10_writing 20 = .ok (.iconst 1, 1) := by decide +kernel
theorem dX10_writing_21 : decode cX10_writing 21 = .ok (.invokevirtual 117, 3) := by decide +kernel
theorem dX10_writing_24 : decode cX10_writing 24 = .ok (.ireturn, 1) := by decide +kernel
theorem dX10_writing_25 : decode cX10_writing 25 = .ok (.aload_n 0, 1) := by decide +kernel
theorem dX10_writing_26 : decode cX10_writing 26 = .ok (.getfield 72, 3) := by decide +kernel
theorem dX10_writing_29 : decode cX10_writing 29 = .ok (.aload_n 0, 1) := by decide +kernel
theorem dX10_writing_30 : decode cX10_writing 30 = .ok (.getfield 9, 3) := by decide +kernel
theorem dX10_writing_33 : decode cX10_writing 33 = .ok (.iload_n 1, 1) := by decide +kernel
theorem dX10_writing_34 : decode cX10_writing 34 = .ok (.aload_n 0, 1) := by decide +kernel
theorem dX10_writing_35 : decode cX10_writing 35 = .ok (.getfield 50, 3) := by decide +kernel
theorem dX10_writing_38 : decode cX10_writing 38 = .ok (.aload_n 0, 1) := by decide +kernel
theorem dX10_writing_39 : decode cX10_writing 39 = .ok (.getfield 50, 3) := by decide +kernel
theorem dX10_writing_42 : decode cX10_writing 42 = .ok (.getfield 184, 3) := by decide +kernel
theorem dX10_writing_45 : decode cX10_writing 45 = .ok (.invokevirtual 187, 3) := by decide +kernel
theorem dX10_writing_48 : decode cX10_writing 48 = .ok (.istore_n 2, 1) := by decide +kernel
theorem dX10_writing_49 : decode cX10_writing 49 = .ok (.aload_n 0, 1) := by decide +kernel
theorem dX10_writing_50 : decode cX10_writing 50 = .ok (.iconst 0, 1) := by decide +kernel
theorem dX10_writing_51 : decode cX10_writing 51 = .ok (.putfield 13, 3) := by decide +kernel
theorem dX10_writing_54 : decode cX10_writing 54 = .ok (.aload_n 0, 1) := by decide +kernel
theorem dX10_writing_55 : decode cX10_writing 55 = .ok (.aload_n 0, 1) := by decide +kernel
theorem dX10_writing_56 : decode cX10_writing 56 = .ok (.getfield 72, 3) := by decide +kernel
theorem dX10_writing_59 : decode cX10_writing 59 = .ok (.getfield 191, 3) := by decide +kernel
theorem dX10_writing_62 : decode cX10_writing 62 = .ok (.putfield 20, 3) := by decide +kernel
theorem dX10_writing_65 : decode cX10_writing 65 = .ok (.aload_n 0, 1) := by decide +kernel
theorem dX10_writing_66 : decode cX10_writing 66 = .ok (.aload_n 0, 1) := by decide +kernel
theorem dX10_writing_67 : decode cX10_writing 67 = .ok (.getfield 72, 3) := by decide +kernel
theorem dX10_writing_70 : decode cX10_writing 70 = .ok (.getfield 192, 3) := by decide +kernel
theorem dX10_writing_73 : decode cX10_writing 73 = .ok (.putfield 23, 3) := by decide +kernel
theorem dX10_writing_76 : decode cX10_writing 76 = .ok (.iload_n 2, 1) := by decide +kernel
theorem dX10_writing_77 : decode cX10_writing 77 = .ok (.ifCond .ne 10, 3) := by decide +kernel
theorem dX10_writing_80 : decode cX10_writing 80 = .ok (.aload_n 0, 1) := by decide +kernel
theorem dX10_writing_81 : decode cX10_writing 81 = .ok (.bipush 9, 2) := by decide +kernel
theorem dX10_writing_83 : decode cX10_writing 83 = .ok (.invokevirtual 117, 3) := by decide +kernel
theorem dX10_writing_86 : decode cX10_writing 86 = .ok (.ireturn, 1) := by decide +kernel
theorem dX10_writing_87 : decode cX10_writing 87 = .ok (.aload_n 0, 1) := by decide +kernel
theorem dX10_writing_88 : decode cX10_writing 88 = .ok (.getfield 57, 3) := by decide +kernel
theorem dX10_writing_91 : decode cX10_writing 91 = .ok (.aload_n 0, 1) := by decide +kernel
theorem dX10_writing_92 : decode cX10_writing 92 = .ok (.getfield 9, 3) := by decide +kernel
theorem dX10_writing_95 : decode cX10_writing 95 = .ok (.iload_n 1, 1) := by decide +kernel
theorem dX10_writing_96 : decode cX10_writing 96 = .ok (.invokevirtual 193, 3) := by decide +kernel
theorem dX10_writing_99 : decode cX10_writing 99 = .ok (.aload_n 0, 1) := by decide +kernel
theorem dX10_writing_100 : decode cX10_writing 100 = .ok (.invokevirtual 197, 3) := by decide +kernel
theorem dX10_writing_103 : decode cX10_writing 103 = .ok (.aload_n 0, 1) := by decide +kernel
theorem dX10_writing_104 : decode cX10_writing 104 = .ok (.aload_n 0, 1) := by decide +kernel
theorem dX10_writing_105 : decode cX10_writing 105 = .ok (.getfield 68, 3) := by decide +kernel
theorem dX10_writing_108 : decode cX10_writing 108 = .ok (.getfield 200, 3) := by decide +kernel
theorem dX10_writing_111 : decode cX10_writing 111 = .ok (.invokevirtual 113, 3) := by decide +kernel
theorem dX10_writing_114 : decode cX10_writing 114 = .ok (.ireturn, 1) := by decide +kernel
theorem dX10_showSpare_0 : decode cX10_showSpare 0 = .ok (.aload_n 0, 1) := by decide +kernel
theorem dX10_showSpare_1 : decode cX10_showSpare 1 = .ok (.getfield 68, 3) := by decide +kernel
theorem dX10_showSpare_4 : decode cX10_showSpare 4 = .ok (.astore_n 1, 1) := by decide +kernel
theorem dX10_showSpare_5 : decode cX10_showSpare 5 = .ok (.aload_n 0, 1) := by decide +kernel
theorem dX10_showSpare_6 : decode cX10_showSpare 6 = .ok (.aload_n 0, 1) := by decide +kernel
theorem dX10_showSpare_7 : decode cX10_showSpare 7 = .ok (.getfield 72, 3) := by decide +kernel
theorem dX10_showSpare_10 : decode cX10_showSpare 10 = .ok (.putfield 68, 3) := by decide +kernel
theorem dX10_showSpare_13 : decode cX10_showSpare 13 = .ok (.aload_n 0, 1) := by decide +kernel
theorem dX10_showSpare_14 : decode cX10_showSpare 14 = .ok (.aload_n 1, 1) := by decide +kernel
theorem dX10_showSpare_15 : decode cX10_showSpare 15 = .ok (.putfield 72, 3) := by decide +kernel
theorem dX10_showSpare_18 : decode cX10_showSpare 18 = .ok (.aload_n 0, 1) := by decide +kernel
theorem dX10_showSpare_19 : decode cX10_showSpare 19 = .ok (.iconst 1, 1) := by decide +kernel
theorem dX10_showSpare_20 : decode cX10_showSpare 20 = .ok (.putfield 61, 3) := by decide +kernel
theorem dX10_showSpare_23 : decode cX10_showSpare 23 = .ok (.aload_n 0, 1) := by decide +kernel
theorem dX10_showSpare_24 : decode cX10_showSpare 24 = .ok (.getfield 78, 3) := by decide +kernel
theorem dX10_showSpare_27 : decode cX10_showSpare 27 = .ok (.aload_n 0, 1) := by decide +kernel
theorem dX10_showSpare_28 : decode cX10_showSpare 28 = .ok (.getfield 68, 3) := by decide +kernel
theorem dX10_showSpare_31 : decode cX10_showSpare 31 = .ok (.aload_n 0, 1) := by decide +kernel
theorem dX10_showSpare_32 : decode cX10_showSpare 32 = .ok (.getfield 50, 3) := by decide +kernel
theorem dX10_showSpare_35 : decode cX10_showSpare 35 = .ok (.invokevirtual 203, 3) := by decide +kernel
theorem dX10_showSpare_38 : decode cX10_showSpare 38 = .ok (.return_, 1) := by decide +kernel
theorem dX10_fault_0 : decode cX10_fault 0 = .ok (.iload_n 1, 1) := by decide +kernel
theorem dX10_fault_1 : decode cX10_fault 1 = .ok (.ifCond .ne 8, 3) := by decide +kernel
theorem dX10_fault_4 : decode cX10_fault 4 = .ok (.aload_n 0, 1) := by decide +kernel
theorem dX10_fault_5 : decode cX10_fault 5 = .ok (.getfield 20, 3) := by decide +kernel
theorem dX10_fault_8 : decode cX10_fault 8 = .ok (.ireturn, 1) := by decide +kernel
theorem dX10_fault_9 : decode cX10_fault 9 = .ok (.iload_n 1, 1) := by decide +kernel
theorem dX10_fault_10 : decode cX10_fault 10 = .ok (.iconst 1, 1) := by decide +kernel
theorem dX10_fault_11 : decode cX10_fault 11 = .ok (.if_icmp .ne 10, 3) := by decide +kernel
theorem dX10_fault_14 : decode cX10_fault 14 = .ok (.aload_n 0, 1) := by decide +kernel
theorem dX10_fault_15 : decode cX10_fault 15 = .ok (.getfield 23, 3) := by decide +kernel
theorem dX10_fault_18 : decode cX10_fault 18 = .ok (.goto 4, 3) := by decide +kernel
theorem dX10_fault_21 : decode cX10_fault 21 = .ok (.iconst (-1), 1) := by decide +kernel
theorem dX10_fault_22 : decode cX10_fault 22 = .ok (.ireturn, 1) := by decide +kernel
theorem dX10_told_0 : decode cX10_told 0 = .ok (.iload_n 1, 1) := by decide +kernel
theorem dX10_told_1 : decode cX10_told 1 = .ok (.ifCond .lt 9, 3) := by decide +kernel
theorem dX10_told_4 : decode cX10_told 4 = .ok (.iload_n 1, 1) := by decide +kernel
theorem dX10_told_5 : decode cX10_told 5 = .ok (.bipush 6, 2) := by decide +kernel
theorem dX10_told_7 : decode cX10_told 7 = .ok (.if_icmp .le 9, 3) := by decide +kernel
theorem dX10_told_10 : decode cX10_told 10 = .ok (.aload_n 0, 1) := by decide +kernel
theorem dX10_told_11 : decode cX10_told 11 = .ok (.iconst 1, 1) := by decide +kernel
theorem dX10_told_12 : decode cX10_told 12 = .ok (.invokevirtual 117, 3) := by decide +kernel
theorem dX10_told_15 : decode cX10_told 15 = .ok (.ireturn, 1) := by decide +kernel
theorem dX10_told_16 : decode cX10_told 16 = .ok (.iload_n 1, 1) := by decide +kernel
theorem dX10_told_17 : decode cX10_told 17 = .ok (.ifCond .ne 15, 3) := by decide +kernel
theorem dX10_told_20 : decode cX10_told 20 = .ok (.aload_n 0, 1) := by decide +kernel
theorem dX10_told_21 : decode cX10_told 21 = .ok (.aload_n 0, 1) := by decide +kernel
theorem dX10_told_22 : decode cX10_told 22 = .ok (.getfield 50, 3) := by decide +kernel
theorem dX10_told_25 : decode cX10_told 25 = .ok (.getfield 181, 3) := by decide +kernel
theorem dX10_told_28 : decode cX10_told 28 = .ok (.invokevirtual 113, 3) := by decide +kernel
theorem dX10_told_31 : decode cX10_told 31 = .ok (.ireturn, 1) := by decide +kernel
theorem dX10_told_32 : decode cX10_told 32 = .ok (.iload_n 1, 1) := by decide +kernel
theorem dX10_told_33 : decode cX10_told 33 = .ok (.iconst 5, 1) := by decide +kernel
theorem dX10_told_34 : decode cX10_told 34 = .ok (.if_icmp .le 15, 3) := by decide +kernel
theorem dX10_told_37 : decode cX10_told 37 = .ok (.aload_n 0, 1) := by decide +kernel
theorem dX10_told_38 : decode cX10_told 38 = .ok (.aload_n 0, 1) := by decide +kernel
theorem dX10_told_39 : decode cX10_told 39 = .ok (.getfield 50, 3) := by decide +kernel
theorem dX10_told_42 : decode cX10_told 42 = .ok (.getfield 184, 3) := by decide +kernel
theorem dX10_told_45 : decode cX10_told 45 = .ok (.invokevirtual 113, 3) := by decide +kernel
theorem dX10_told_48 : decode cX10_told 48 = .ok (.ireturn, 1) := by decide +kernel
theorem dX10_told_49 : decode cX10_told 49 = .ok (.aload_n 0, 1) := by decide +kernel
theorem dX10_told_50 : decode cX10_told 50 = .ok (.getfield 50, 3) := by decide +kernel
theorem dX10_told_53 : decode cX10_told 53 = .ok (.getfield 206, 3) := by decide +kernel
theorem dX10_told_56 : decode cX10_told 56 = .ok (.iload_n 1, 1) := by decide +kernel
theorem dX10_told_57 : decode cX10_told 57 = .ok (.iconst 1, 1) := by decide +kernel
theorem dX10_told_58 : decode cX10_told 58 = .ok (.isub, 1) := by decide +kernel
theorem dX10_told_59 : decode cX10_told 59 = .ok (.iaload, 1) := by decide +kernel
theorem dX10_told_60 : decode cX10_told 60 = .ok (.istore_n 2, 1) := by decide +kernel
theorem dX10_told_61 : decode cX10_told 61 = .ok (.aload_n 0, 1) := by decide +kernel
theorem dX10_told_62 : decode cX10_told 62 = .ok (.iload_n 2, 1) := by decide +kernel
theorem dX10_told_63 : decode cX10_told 63 = .ok (.ifCond .eq 7, 3) := by decide +kernel
theorem dX10_told_66 : decode cX10_told 66 = .ok (.iconst 1, 1) := by decide +kernel
theorem dX10_told_67 : decode cX10_told 67 = .ok (.goto 4, 3) := by decide +kernel
theorem dX10_told_70 : decode cX10_told 70 = .ok (.iconst 0, 1) := by decide +kernel
theorem dX10_told_71 : decode cX10_told 71 = .ok (.iload_n 2, 1) := by decide +kernel
theorem dX10_told_72 : decode cX10_told 72 = .ok (.bipush 6, 2) := by decide +kernel
theorem dX10_told_74 : decode cX10_told 74 = .ok (.invokevirtual 209, 3) := by decide +kernel
theorem dX10_told_77 : decode cX10_told 77 = .ok (.ireturn, 1) := by decide +kernel
theorem dX10_rule_0 : decode cX10_rule 0 = .ok (.aload_n 0, 1) := by decide +kernel
theorem dX10_rule_1 : decode cX10_rule 1 = .ok (.getfield 50, 3) := by decide +kernel
theorem dX10_rule_4 : decode cX10_rule 4 = .ok (.iload_n 1, 1) := by decide +kernel
theorem dX10_rule_5 : decode cX10_rule 5 = .ok (.invokevirtual 213, 3) := by decide +kernel
theorem dX10_rule_8 : decode cX10_rule 8 = .ok (.ifCond .eq 12, 3) := by decide +kernel
theorem dX10_rule_11 : decode cX10_rule 11 = .ok (.iload_n 2, 1) := by decide +kernel
theorem dX10_rule_12 : decode cX10_rule 12 = .ok (.ifCond .lt 8, 3) := by decide +kernel
theorem dX10_rule_15 : decode cX10_rule 15 = .ok (.iload_n 2, 1) := by decide +kernel
theorem dX10_rule_16 : decode cX10_rule 16 = .ok (.iconst 2, 1) := by decide +kernel
theorem dX10_rule_17 : decode cX10_rule 17 = .ok (.if_icmp .le 9, 3) := by decide +kernel
theorem dX10_rule_20 : decode cX10_rule 20 = .ok (.aload_n 0, 1) := by decide +kernel
theorem dX10_rule_21 : decode cX10_rule 21 = .ok (.iconst 1, 1) := by decide +kernel
theorem dX10_rule_22 : decode cX10_rule 22 = .ok (.invokevirtual 117, 3) := by decide +kernel
theorem dX10_rule_25 : decode cX10_rule 25 = .ok (.ireturn, 1) := by decide +kernel
theorem dX10_rule_26 : decode cX10_rule 26 = .ok (.iload_n 2, 1) := by decide +kernel
theorem dX10_rule_27 : decode cX10_rule 27 = .ok (.ifCond .ne 17, 3) := by decide +kernel
theorem dX10_rule_30 : decode cX10_rule 30 = .ok (.aload_n 0, 1) := by decide +kernel
theorem dX10_rule_31 : decode cX10_rule 31 = .ok (.aload_n 0, 1) := by decide +kernel
theorem dX10_rule_32 : decode cX10_rule 32 = .ok (.getfield 50, 3) := by decide +kernel
theorem dX10_rule_35 : decode cX10_rule 35 = .ok (.getfield 216, 3) := by decide +kernel
theorem dX10_rule_38 : decode cX10_rule 38 = .ok (.iload_n 1, 1) := by decide +kernel
theorem dX10_rule_39 : decode cX10_rule 39 = .ok (.iaload, 1) := by decide +kernel
theorem dX10_rule_40 : decode cX10_rule 40 = .ok (.invokevirtual 113, 3) := by decide +kernel
theorem dX10_rule_43 : decode cX10_rule 43 = .ok (.ireturn, 1) := by decide +kernel
theorem dX10_rule_44 : decode cX10_rule 44 = .ok (.aload_n 0, 1) := by decide +kernel
theorem dX10_rule_45 : decode cX10_rule 45 = .ok (.iload_n 2, 1) := by decide +kernel
theorem dX10_rule_46 : decode cX10_rule 46 = .ok (.iconst 1, 1) := by decide +kernel
theorem dX10_rule_47 : decode cX10_rule 47 = .ok (.if_icmp .ne 15, 3) := by decide +kernel
theorem dX10_rule_50 : decode cX10_rule 50 = .ok (.aload_n 0, 1) := by decide +kernel
theorem dX10_rule_51 : decode cX10_rule 51 = .ok (.getfield 50, 3) := by decide +kernel
theorem dX10_rule_54 : decode cX10_rule 54 = .ok (.getfield 219, 3) := by decide +kernel
theorem dX10_rule_57 : decode cX10_rule 57 = .ok (.iload_n 1, 1) := by decide +kernel
theorem dX10_rule_58 : decode cX10_rule 58 = .ok (.iaload, 1) := by decide +kernel
theorem dX10_rule_59 : decode cX10_rule 59 = .ok (.goto 12, 3) := by decide +kernel
theorem dX10_rule_62 : decode cX10_rule 62 = .ok (.aload_n 0, 1) := by decide +kernel
theorem dX10_rule_63 : decode cX10_rule 63 = .ok (.getfield 50, 3) := by decide +kernel
theorem dX10_rule_66 : decode cX10_rule 66 = .ok (.getfield 222, 3) := by decide +kernel
theorem dX10_rule_69 : decode cX10_rule 69 = .ok (.iload_n 1, 1) := by decide +kernel
theorem dX10_rule_70 : decode cX10_rule 70 = .ok (.iaload, 1) := by decide +kernel
theorem dX10_rule_71 : decode cX10_rule 71 = .ok (.invokevirtual 113, 3) := by decide +kernel
theorem dX10_rule_74 : decode cX10_rule 74 = .ok (.ireturn, 1) := by decide +kernel
theorem dX10_letter_0 : decode cX10_letter 0 = .ok (.aload_n 0, 1) := by decide +kernel
theorem dX10_letter_1 : decode cX10_letter 1 = .ok (.getfield 50, 3) := by decide +kernel
theorem dX10_letter_4 : decode cX10_letter 4 = .ok (.iload_n 1, 1) := by decide +kernel
theorem dX10_letter_5 : decode cX10_letter 5 = .ok (.invokevirtual 213, 3) := by decide +kernel
theorem dX10_letter_8 : decode cX10_letter 8 = .ok (.ifCond .ne 9, 3) := by decide +kernel
theorem dX10_letter_11 : decode cX10_letter 11 = .ok (.aload_n 0, 1) := by decide +kernel
theorem dX10_letter_12 : decode cX10_letter 12 = .ok (.iconst 1, 1) := by decide +kernel
theorem dX10_letter_13 : decode cX10_letter 13 = .ok (.invokevirtual 117, 3) := by decide +kernel
theorem dX10_letter_16 : decode cX10_letter 16 = .ok (.ireturn, 1) := by decide +kernel
theorem dX10_letter_17 : decode cX10_letter 17 = .ok (.iload_n 2, 1) := by decide +kernel
theorem dX10_letter_18 : decode cX10_letter 18 = .ok (.ifCond .lt 16, 3) := by decide +kernel
theorem dX10_letter_21 : decode cX10_letter 21 = .ok (.iload_n 2, 1) := by decide +kernel
theorem dX10_letter_22 : decode cX10_letter 22 = .ok (.aload_n 0, 1) := by decide +kernel
theorem dX10_letter_23 : decode cX10_letter 23 = .ok (.getfield 50, 3) := by decide +kernel
theorem dX10_letter_26 : decode cX10_letter 26 = .ok (.getfield 216, 3) := by decide +kernel
theorem dX10_letter_29 : decode cX10_letter 29 = .ok (.iload_n 1, 1) := by decide +kernel
theorem dX10_letter_30 : decode cX10_letter 30 = .ok (.iaload, 1) := by decide +kernel
theorem dX10_letter_31 : decode cX10_letter 31 = .ok (.if_icmp .lt 10, 3) := by decide +kernel
theorem dX10_letter_34 : decode cX10_letter 34 = .ok (.aload_n 0, 1) := by decide +kernel
theorem dX10_letter_35 : decode cX10_letter 35 = .ok (.bipush 6, 2) := by decide +kernel
theorem dX10_letter_37 : decode cX10_letter 37 = .ok (.invokevirtual 117, 3) := by decide +kernel
theorem dX10_letter_40 : decode cX10_letter 40 = .ok (.ireturn, 1) := by decide +kernel
theorem dX10_letter_41 : decode cX10_letter 41 = .ok (.aload_n 0, 1) := by decide +kernel
theorem dX10_letter_42 : decode cX10_letter 42 = .ok (.aload_n 0, 1) := by decide +kernel
theorem dX10_letter_43 : decode cX10_letter 43 = .ok (.getfield 50, 3) := by decide +kernel
theorem dX10_letter_46 : decode cX10_letter 46 = .ok (.iload_n 1, 1) := by decide +kernel
theorem dX10_letter_47 : decode cX10_letter 47 = .ok (.iload_n 2, 1) := by decide +kernel
theorem dX10_letter_48 : decode cX10_letter 48 = .ok (.invokevirtual 225, 3) := by decide +kernel
theorem dX10_letter_51 : decode cX10_letter 51 = .ok (.invokevirtual 113, 3) := by decide +kernel
theorem dX10_letter_54 : decode cX10_letter 54 = .ok (.ireturn, 1) := by decide +kernel
theorem dX10_cellOf_0 : decode cX10_cellOf 0 = .ok (.aload_n 0, 1) := by decide +kernel
theorem dX10_cellOf_1 : decode cX10_cellOf 1 = .ok (.getfield 50, 3) := by decide +kernel
theorem dX10_cellOf_4 : decode cX10_cellOf 4 = .ok (.iload_n 1, 1) := by decide +kernel
theorem dX10_cellOf_5 : decode cX10_cellOf 5 = .ok (.invokevirtual 213, 3) := by decide +kernel
theorem dX10_cellOf_8 : decode cX10_cellOf 8 = .ok (.ifCond .ne 9, 3) := by decide +kernel
theorem dX10_cellOf_11 : decode cX10_cellOf 11 = .ok (.aload_n 0, 1) := by decide +kernel
theorem dX10_cellOf_12 : decode cX10_cellOf 12 = .ok (.iconst 1, 1) := by decide +kernel
theorem dX10_cellOf_13 : decode cX10_cellOf 13 = .ok (.invokevirtual 117, 3) := by decide +kernel
theorem dX10_cellOf_16 : decode cX10_cellOf 16 = .ok (.ireturn, 1) := by decide +kernel
theorem dX10_cellOf_17 : decode cX10_cellOf 17 = .ok (.iload_n 2, 1) := by decide +kernel
theorem dX10_cellOf_18 : decode cX10_cellOf 18 = .ok (.ifCond .lt 16, 3) := by decide +kernel
theorem dX10_cellOf_21 : decode cX10_cellOf 21 = .ok (.iload_n 2, 1) := by decide +kernel
theorem dX10_cellOf_22 : decode cX10_cellOf 22 = .ok (.aload_n 0, 1) := by decide +kernel
theorem dX10_cellOf_23 : decode cX10_cellOf 23 = .ok (.getfield 50, 3) := by decide +kernel
theorem dX10_cellOf_26 : decode cX10_cellOf 26 = .ok (.getfield 219, 3) := by decide +kernel
theorem dX10_cellOf_29 : decode cX10_cellOf 29 = .ok (.iload_n 1, 1) := by decide +kernel
theorem dX10_cellOf_30 : decode cX10_cellOf 30 = .ok (.iaload, 1) := by decide +kernel
theorem dX10_cellOf_31 : decode cX10_cellOf 31 = .ok (.if_icmp .lt 10, 3) := by decide +kernel
theorem dX10_cellOf_34 : decode cX10_cellOf 34 = .ok (.aload_n 0, 1) := by decide +kernel
theorem dX10_cellOf_35 : decode cX10_cellOf 35 = .ok (.bipush 6, 2) := by decide +kernel
theorem dX10_cellOf_37 : decode cX10_cellOf 37 = .ok (.invokevirtual 117, 3) := by decide +kernel
theorem dX10_cellOf_40 : decode cX10_cellOf 40 = .ok (.ireturn, 1) := by decide +kernel
theorem dX10_cellOf_41 : decode cX10_cellOf 41 = .ok (.aload_n 0, 1) := by decide +kernel
theorem dX10_cellOf_42 : decode cX10_cellOf 42 = .ok (.aload_n 0, 1) := by decide +kernel
theorem dX10_cellOf_43 : decode cX10_cellOf 43 = .ok (.getfield 50, 3) := by decide +kernel
theorem dX10_cellOf_46 : decode cX10_cellOf 46 = .ok (.iload_n 1, 1) := by decide +kernel
theorem dX10_cellOf_47 : decode cX10_cellOf 47 = .ok (.iload_n 2, 1) := by decide +kernel
theorem dX10_cellOf_48 : decode cX10_cellOf 48 = .ok (.invokevirtual 228, 3) := by decide +kernel
theorem dX10_cellOf_51 : decode cX10_cellOf 51 = .ok (.invokevirtual 113, 3) := by decide +kernel
theorem dX10_cellOf_54 : decode cX10_cellOf 54 = .ok (.ireturn, 1) := by decide +kernel
theorem dX10_drop_0 : decode cX10_drop 0 = .ok (.aload_n 0, 1) := by decide +kernel
theorem dX10_drop_1 : decode cX10_drop 1 = .ok (.getfield 50, 3) := by decide +kernel
theorem dX10_drop_4 : decode cX10_drop 4 = .ok (.iload_n 1, 1) := by decide +kernel
theorem dX10_drop_5 : decode cX10_drop 5 = .ok (.invokevirtual 213, 3) := by decide +kernel
theorem dX10_drop_8 : decode cX10_drop 8 = .ok (.ifCond .ne 9, 3) := by decide +kernel
theorem dX10_drop_11 : decode cX10_drop 11 = .ok (.aload_n 0, 1) := by decide +kernel
theorem dX10_drop_12 : decode cX10_drop 12 = .ok (.iconst 1, 1) := by decide +kernel
theorem dX10_drop_13 : decode cX10_drop 13 = .ok (.invokevirtual 127, 3) := by decide +kernel
theorem dX10_drop_16 : decode cX10_drop 16 = .ok (.ireturn, 1) := by decide +kernel
theorem dX10_drop_17 : decode cX10_drop 17 = .ok (.iconst 1, 1) := by decide +kernel
theorem dX10_drop_18 : decode cX10_drop 18 = .ok (.iload_n 1, 1) := by decide +kernel
theorem dX10_drop_19 : decode cX10_drop 19 = .ok (.ishl, 1) := by decide +kernel
theorem dX10_drop_20 : decode cX10_drop 20 = .ok (.istore_n 3, 1) := by decide +kernel
theorem dX10_drop_21 : decode cX10_drop 21 = .ok (.aload_n 0, 1) := by decide +kernel
theorem dX10_drop_22 : decode cX10_drop 22 = .ok (.getfield 50, 3) := by decide +kernel
theorem dX10_drop_25 : decode cX10_drop 25 = .ok (.iload_n 2, 1) := by decide +kernel
theorem dX10_drop_26 : decode cX10_drop 26 = .ok (.ifCond .eq 15, 3) := by decide +kernel
theorem dX10_drop_29 : decode cX10_drop 29 = .ok (.aload_n 0, 1) := by decide +kernel
theorem dX10_drop_30 : decode cX10_drop 30 = .ok (.getfield 50, 3) := by decide +kernel
theorem dX10_drop_33 : decode cX10_drop 33 = .ok (.getfield 184, 3) := by decide +kernel
theorem dX10_drop_36 : decode cX10_drop 36 = .ok (.iload_n 3, 1) := by decide +kernel
theorem dX10_drop_37 : decode cX10_drop 37 = .ok (.ior, 1) := by decide +kernel
theorem dX10_drop_38 : decode cX10_drop 38 = .ok (.goto 14, 3) := by decide +kernel
theorem dX10_drop_41 : decode cX10_drop 41 = .ok (.aload_n 0, 1) := by decide +kernel
theorem dX10_drop_42 : decode cX10_drop 42 = .ok (.getfield 50, 3) := by decide +kernel
theorem dX10_drop_45 : decode cX10_drop 45 = .ok (.getfield 184, 3) := by decide +kernel
theorem dX10_drop_48 : decode cX10_drop 48 = .ok (.iload_n 3, 1) := by decide +kernel
theorem dX10_drop_49 : decode cX10_drop 49 = .ok (.iconst (-1), 1) := by decide +kernel
theorem dX10_drop_50 : decode cX10_drop 50 = .ok (.ixor, 1) := by decide +kernel
theorem dX10_drop_51 : decode cX10_drop 51 = .ok (.iand, 1) := by decide +kernel
theorem dX10_drop_52 : decode cX10_drop 52 = .ok (.putfield 184, 3) := by decide +kernel
theorem dX10_drop_55 : decode cX10_drop 55 = .ok (.aload_n 0, 1) := by decide +kernel
theorem dX10_drop_56 : decode cX10_drop 56 = .ok (.invokevirtual 134, 3) := by decide +kernel
theorem dX10_drop_59 : decode cX10_drop 59 = .ok (.ireturn, 1) := by decide +kernel
theorem dX10_reset_0 : decode cX10_reset 0 = .ok (.aload_n 0, 1) := by decide +kernel
theorem dX10_reset_1 : decode cX10_reset 1 = .ok (.getfield 57, 3) := by decide +kernel
theorem dX10_reset_4 : decode cX10_reset 4 = .ok (.invokevirtual 231, 3) := by decide +kernel
theorem dX10_reset_7 : decode cX10_reset 7 = .ok (.ifCond .ne 10, 3) := by decide +kernel
theorem dX10_reset_10 : decode cX10_reset 10 = .ok (.aload_n 0, 1) := by decide +kernel
theorem dX10_reset_11 : decode cX10_reset 11 = .ok (.bipush 6, 2) := by decide +kernel
theorem dX10_reset_13 : decode cX10_reset 13 = .ok (.invokevirtual 117, 3) := by decide +kernel
theorem dX10_reset_16 : decode cX10_reset 16 = .ok (.ireturn, 1) := by decide +kernel
theorem dX10_reset_17 : decode cX10_reset 17 = .ok (.aload_n 0, 1) := by decide +kernel
theorem dX10_reset_18 : decode cX10_reset 18 = .ok (.getfield 72, 3) := by decide +kernel
theorem dX10_reset_21 : decode cX10_reset 21 = .ok (.aload_n 0, 1) := by decide +kernel
theorem dX10_reset_22 : decode cX10_reset 22 = .ok (.getfield 57, 3) := by decide +kernel
theorem dX10_reset_25 : decode cX10_reset 25 = .ok (.getfield 234, 3) := by decide +kernel
theorem dX10_reset_28 : decode cX10_reset 28 = .ok (.aload_n 0, 1) := by decide +kernel
theorem dX10_reset_29 : decode cX10_reset 29 = .ok (.getfield 57, 3) := by decide +kernel
theorem dX10_reset_32 : decode cX10_reset 32 = .ok (.getfield 237, 3) := by decide +kernel
theorem dX10_reset_35 : decode cX10_reset 35 = .ok (.aload_n 0, 1) := by decide +kernel
theorem dX10_reset_36 : decode cX10_reset 36 = .ok (.getfield 50, 3) := by decide +kernel
theorem dX10_reset_39 : decode cX10_reset 39 = .ok (.aload_n 0, 1) := by decide +kernel
theorem dX10_reset_40 : decode cX10_reset 40 = .ok (.getfield 50, 3) := by decide +kernel
theorem dX10_reset_43 : decode cX10_reset 43 = .ok (.getfield 184, 3) := by decide +kernel
theorem dX10_reset_46 : decode cX10_reset 46 = .ok (.invokevirtual 187, 3) := by decide +kernel
theorem dX10_reset_49 : decode cX10_reset 49 = .ok (.ifCond .ne 10, 3) := by decide +kernel
theorem dX10_reset_52 : decode cX10_reset 52 = .ok (.aload_n 0, 1) := by decide +kernel
theorem dX10_reset_53 : decode cX10_reset 53 = .ok (.bipush 7, 2) := by decide +kernel
theorem dX10_reset_55 : decode cX10_reset 55 = .ok (.invokevirtual 117, 3) := by decide +kernel
theorem dX10_reset_58 : decode cX10_reset 58 = .ok (.ireturn, 1) := by decide +kernel
theorem dX10_reset_59 : decode cX10_reset 59 = .ok (.aload_n 0, 1) := by decide +kernel
theorem dX10_reset_60 : decode cX10_reset 60 = .ok (.invokevirtual 197, 3) := by decide +kernel
theorem dX10_reset_63 : decode cX10_reset 63 = .ok (.aload_n 0, 1) := by decide +kernel
theorem dX10_reset_64 : decode cX10_reset 64 = .ok (.aload_n 0, 1) := by decide +kernel
theorem dX10_reset_65 : decode cX10_reset 65 = .ok (.getfield 68, 3) := by decide +kernel
theorem dX10_reset_68 : decode cX10_reset 68 = .ok (.getfield 200, 3) := by decide +kernel
theorem dX10_reset_71 : decode cX10_reset 71 = .ok (.invokevirtual 113, 3) := by decide +kernel
theorem dX10_reset_74 : decode cX10_reset 74 = .ok (.ireturn, 1) := by decide +kernel
theorem dX10_size_0 : decode cX10_size 0 = .ok (.iload_n 1, 1) := by decide +kernel
theorem dX10_size_1 : decode cX10_size 1 = .ok (.ifCond .lt 8, 3) := by decide +kernel
theorem dX10_size_4 : decode cX10_size 4 = .ok (.iload_n 1, 1) := by decide +kernel
theorem dX10_size_5 : decode cX10_size 5 = .ok (.iconst 4, 1) := by decide +kernel
theorem dX10_size_6 : decode cX10_size 6 = .ok (.if_icmp .le 9, 3) := by decide +kernel
theorem dX10_size_9 : decode cX10_size 9 = .ok (.aload_n 0, 1) := by decide +kernel
theorem dX10_size_10 : decode cX10_size 10 = .ok (.iconst 1, 1) := by decide +kernel
theorem dX10_size_11 : decode cX10_size 11 = .ok (.invokevirtual 117, 3) := by decide +kernel
theorem dX10_size_14 : decode cX10_size 14 = .ok (.ireturn, 1) := by decide +kernel
theorem dX10_size_15 : decode cX10_size 15 = .ok (.aload_n 0, 1) := by decide +kernel
theorem dX10_size_16 : decode cX10_size 16 = .ok (.getfield 61, 3) := by decide +kernel
theorem dX10_size_19 : decode cX10_size 19 = .ok (.ifCond .ne 10, 3) := by decide +kernel
theorem dX10_size_22 : decode cX10_size 22 = .ok (.aload_n 0, 1) := by decide +kernel
theorem dX10_size_23 : decode cX10_size 23 = .ok (.bipush 6, 2) := by decide +kernel
theorem dX10_size_25 : decode cX10_size 25 = .ok (.invokevirtual 117, 3) := by decide +kernel
theorem dX10_size_28 : decode cX10_size 28 = .ok (.ireturn, 1) := by decide +kernel
theorem dX10_size_29 : decode cX10_size 29 = .ok (.iload_n 1, 1) := by decide +kernel
theorem dX10_size_30 : decode cX10_size 30 = .ok (.tableswitch 75 0 3 #[30, 42, 54, 63], 30) := by decide +kernel
theorem dX10_size_60 : decode cX10_size 60 = .ok (.aload_n 0, 1) := by decide +kernel
theorem dX10_size_61 : decode cX10_size 61 = .ok (.aload_n 0, 1) := by decide +kernel
theorem dX10_size_62 : decode cX10_size 62 = .ok (.getfield 68, 3) := by decide +kernel
theorem dX10_size_65 : decode cX10_size 65 = .ok (.getfield 200, 3) := by decide +kernel
theorem dX10_size_68 : decode cX10_size 68 = .ok (.invokevirtual 113, 3) := by decide +kernel
theorem dX10_size_71 : decode cX10_size 71 = .ok (.ireturn, 1) := by decide +kernel
theorem dX10_size_72 : decode cX10_size 72 = .ok (.aload_n 0, 1) := by decide +kernel
theorem dX10_size_73 : decode cX10_size 73 = .ok (.aload_n 0, 1) := by decide +kernel
theorem dX10_size_74 : decode cX10_size 74 = .ok (.getfield 78, 3) := by decide +kernel
theorem dX10_size_77 : decode cX10_size 77 = .ok (.getfield 238, 3) := by decide +kernel
theorem dX10_size_80 : decode cX10_size 80 = .ok (.invokevirtual 113, 3) := by decide +kernel
theorem dX10_size_83 : decode cX10_size 83 = .ok (.ireturn, 1) := by decide +kernel
theorem dX10_size_84 : decode cX10_size 84 = .ok (.aload_n 0, 1) := by decide +kernel
theorem dX10_size_85 : decode cX10_size 85 = .ok (.aload_n 0, 1) := by decide +kernel
theorem dX10_size_86 : decode cX10_size 86 = .ok (.invokevirtual 241, 3) := by decide +kernel
theorem dX10_size_89 : decode cX10_size 89 = .ok (.invokevirtual 113, 3) := by decide +kernel
theorem dX10_size_92 : decode cX10_size 92 = .ok (.ireturn, 1) := by decide +kernel
theorem dX10_size_93 : decode cX10_size 93 = .ok (.aload_n 0, 1) := by decide +kernel
theorem dX10_size_94 : decode cX10_size 94 = .ok (.aload_n 0, 1) := by decide +kernel
theorem dX10_size_95 : decode cX10_size 95 = .ok (.getfield 78, 3) := by decide +kernel
theorem dX10_size_98 : decode cX10_size 98 = .ok (.getfield 245, 3) := by decide +kernel
theorem dX10_size_101 : decode cX10_size 101 = .ok (.invokevirtual 113, 3) := by decide +kernel
theorem dX10_size_104 : decode cX10_size 104 = .ok (.ireturn, 1) := by decide +kernel
theorem dX10_size_105 : decode cX10_size 105 = .ok (.aload_n 0, 1) := by decide +kernel
theorem dX10_size_106 : decode cX10_size 106 = .ok (.aload_n 0, 1) := by decide +kernel
theorem dX10_size_107 : decode cX10_size 107 = .ok (.getfield 68, 3) := by decide +kernel
theorem dX10_size_110 : decode cX10_size 110 = .ok (.invokevirtual 248, 3) := by decide +kernel
theorem dX10_size_113 : decode cX10_size 113 = .ok (.invokevirtual 113, 3) := by decide +kernel
theorem dX10_size_116 : decode cX10_size 116 = .ok (.ireturn, 1) := by decide +kernel
theorem dX10_pages_0 : decode cX10_pages 0 = .ok (.iconst 1, 1) := by decide +kernel
theorem dX10_pages_1 : decode cX10_pages 1 = .ok (.aload_n 0, 1) := by decide +kernel
theorem dX10_pages_2 : decode cX10_pages 2 = .ok (.getfield 50, 3) := by decide +kernel
theorem dX10_pages_5 : decode cX10_pages 5 = .ok (.getfield 206, 3) := by decide +kernel
theorem dX10_pages_8 : decode cX10_pages 8 = .ok (.iconst 4, 1) := by decide +kernel
theorem dX10_pages_9 : decode cX10_pages 9 = .ok (.iaload, 1) := by decide +kernel
theorem dX10_pages_10 : decode cX10_pages 10 = .ok (.invokestatic 251, 3) := by decide +kernel
theorem dX10_pages_13 : decode cX10_pages 13 = .ok (.istore_n 1, 1) := by decide +kernel
theorem dX10_pages_14 : decode cX10_pages 14 = .ok (.aload_n 0, 1) := by decide +kernel
theorem dX10_pages_15 : decode cX10_pages 15 = .ok (.getfield 78, 3) := by decide +kernel
theorem dX10_pages_18 : decode cX10_pages 18 = .ok (.getfield 238, 3) := by decide +kernel
theorem dX10_pages_21 : decode cX10_pages 21 = .ok (.iload_n 1, 1) := by decide +kernel
theorem dX10_pages_22 : decode cX10_pages 22 = .ok (.iadd, 1) := by decide +kernel
theorem dX10_pages_23 : decode cX10_pages 23 = .ok (.iconst 1, 1) := by decide +kernel
theorem dX10_pages_24 : decode cX10_pages 24 = .ok (.isub, 1) := by decide +kernel
theorem dX10_pages_25 : decode cX10_pages 25 = .ok (.iload_n 1, 1) := by decide +kernel
theorem dX10_pages_26 : decode cX10_pages 26 = .ok (.idiv, 1) := by decide +kernel
theorem dX10_pages_27 : decode cX10_pages 27 = .ok (.ireturn, 1) := by decide +kernel
theorem dX10_isSetCell_0 : decode cX10_isSetCell 0 = .ok (.aload_n 0, 1) := by decide +kernel
theorem dX10_isSetCell_1 : decode cX10_isSetCell 1 = .ok (.getfield 61, 3) := by decide +kernel
theorem dX10_isSetCell_4 : decode cX10_isSetCell 4 = .ok (.ifCond .eq 22, 3) := by decide +kernel
theorem dX10_isSetCell_7 : decode cX10_isSetCell 7 = .ok (.iload_n 1, 1) := by decide +kernel
theorem dX10_isSetCell_8 : decode cX10_isSetCell 8 = .ok (.ifCond .lt 18, 3) := by decide +kernel
theorem dX10_isSetCell_11 : decode cX10_isSetCell 11 = .ok (.iload_n 1, 1) := by decide +kernel
theorem dX10_isSetCell_12 : decode cX10_isSetCell 12 = .ok (.aload_n 0, 1) := by decide +kernel
theorem dX10_isSetCell_13 : decode cX10_isSetCell 13 = .ok (.getfield 68, 3) := by decide +kernel
theorem dX10_isSetCell_16 : decode cX10_isSetCell 16 = .ok (.getfield 200, 3) := by decide +kernel
theorem dX10_isSetCell_19 : decode cX10_isSetCell 19 = .ok (.if_icmp .ge 7, 3) := by decide +kernel
theorem dX10_isSetCell_22 : decode cX10_isSetCell 22 = .ok (.iconst 1, 1) := by decide +kernel
theorem dX10_isSetCell_23 : decode cX10_isSetCell 23 = .ok (.goto 4, 3) := by decide +kernel
theorem dX10_isSetCell_26 : decode cX10_isSetCell 26 = .ok (.iconst 0, 1) := by decide +kernel
theorem dX10_isSetCell_27 : decode cX10_isSetCell 27 = .ok (.ireturn, 1) := by decide +kernel
theorem dX10_isLine_0 : decode cX10_isLine 0 = .ok (.aload_n 0, 1) := by decide +kernel
theorem dX10_isLine_1 : decode cX10_isLine 1 = .ok (.getfield 61, 3) := by decide +kernel
theorem dX10_isLine_4 : decode cX10_isLine 4 = .ok (.ifCond .eq 22, 3) := by decide +kernel
theorem dX10_isLine_7 : decode cX10_isLine 7 = .ok (.iload_n 1, 1) := by decide +kernel
theorem dX10_isLine_8 : decode cX10_isLine 8 = .ok (.ifCond .lt 18, 3) := by decide +kernel
theorem dX10_isLine_11 : decode cX10_isLine 11 = .ok (.iload_n 1, 1) := by decide +kernel
theorem dX10_isLine_12 : decode cX10_isLine 12 = .ok (.aload_n 0, 1) := by decide +kernel
theorem dX10_isLine_13 : decode cX10_isLine 13 = .ok (.getfield 78, 3) := by decide +kernel
theorem dX10_isLine_16 : decode cX10_isLine 16 = .ok (.getfield 238, 3) := by decide +kernel
theorem dX10_isLine_19 : decode cX10_isLine 19 = .ok (.if_icmp .ge 7, 3) := by decide +kernel
theorem dX10_isLine_22 : decode cX10_isLine 22 = .ok (.iconst 1, 1) := by decide +kernel
theorem dX10_isLine_23 : decode cX10_isLine 23 = .ok (.goto 4, 3) := by decide +kernel
theorem dX10_isLine_26 : decode cX10_isLine 26 = .ok (.iconst 0, 1) := by decide +kernel
theorem dX10_isLine_27 : decode cX10_isLine 27 = .ok (.ireturn, 1) := by decide +kernel
theorem dX10_cell_0 : decode cX10_cell 0 = .ok (.aload_n 0, 1) := by decide +kernel
theorem dX10_cell_1 : decode cX10_cell 1 = .ok (.iload_n 1, 1) := by decide +kernel
theorem dX10_cell_2 : decode cX10_cell 2 = .ok (.invokevirtual 256, 3) := by decide +kernel
theorem dX10_cell_5 : decode cX10_cell 5 = .ok (.ifCond .ne 10, 3) := by decide +kernel
theorem dX10_cell_8 : decode cX10_cell 8 = .ok (.aload_n 0, 1) := by decide +kernel
theorem dX10_cell_9 : decode cX10_cell 9 = .ok (.bipush 6, 2) := by decide +kernel
theorem dX10_cell_11 : decode cX10_cell 11 = .ok (.invokevirtual 117, 3) := by decide +kernel
theorem dX10_cell_14 : decode cX10_cell 14 = .ok (.ireturn, 1) := by decide +kernel
theorem dX10_cell_15 : decode cX10_cell 15 = .ok (.aload_n 0, 1) := by decide +kernel
theorem dX10_cell_16 : decode cX10_cell 16 = .ok (.aload_n 0, 1) := by decide +kernel
theorem dX10_cell_17 : decode cX10_cell 17 = .ok (.getfield 68, 3) := by decide +kernel
theorem dX10_cell_20 : decode cX10_cell 20 = .ok (.getfield 259, 3) := by decide +kernel
theorem dX10_cell_23 : decode cX10_cell 23 = .ok (.iload_n 1, 1) := by decide +kernel
theorem dX10_cell_24 : decode cX10_cell 24 = .ok (.iaload, 1) := by decide +kernel
theorem dX10_cell_25 : decode cX10_cell 25 = .ok (.invokevirtual 113, 3) := by decide +kernel
theorem dX10_cell_28 : decode cX10_cell 28 = .ok (.ireturn, 1) := by decide +kernel
theorem dX10_line_0 : decode cX10_line 0 = .ok (.aload_n 0, 1) := by decide +kernel
theorem dX10_line_1 : decode cX10_line 1 = .ok (.iload_n 1, 1) := by decide +kernel
theorem dX10_line_2 : decode cX10_line 2 = .ok (.invokevirtual 262, 3) := by decide +kernel
theorem dX10_line_5 : decode cX10_line 5 = .ok (.ifCond .ne 10, 3) := by decide +kernel
theorem dX10_line_8 : decode cX10_line 8 = .ok (.aload_n 0, 1) := by decide +kernel
theorem dX10_line_9 : decode cX10_line 9 = .ok (.bipush 6, 2) := by decide +kernel
theorem dX10_line_11 : decode cX10_line 11 = .ok (.invokevirtual 117, 3) := by decide +kernel
theorem dX10_line_14 : decode cX10_line 14 = .ok (.ireturn, 1) := by decide +kernel
theorem dX10_line_15 : decode cX10_line 15 = .ok (.aload_n 0, 1) := by decide +kernel
theorem dX10_line_16 : decode cX10_line 16 = .ok (.aload_n 0, 1) := by decide +kernel
theorem dX10_line_17 : decode cX10_line 17 = .ok (.getfield 78, 3) := by decide +kernel
theorem dX10_line_20 : decode cX10_line 20 = .ok (.iload_n 1, 1) := by decide +kernel
theorem dX10_line_21 : decode cX10_line 21 = .ok (.invokevirtual 265, 3) := by decide +kernel
theorem dX10_line_24 : decode cX10_line 24 = .ok (.invokevirtual 113, 3) := by decide +kernel
theorem dX10_line_27 : decode cX10_line 27 = .ok (.ireturn, 1) := by decide +kernel
theorem dX10_lineAt_0 : decode cX10_lineAt 0 = .ok (.aload_n 0, 1) := by decide +kernel
theorem dX10_lineAt_1 : decode cX10_lineAt 1 = .ok (.iload_n 1, 1) := by decide +kernel
theorem dX10_lineAt_2 : decode cX10_lineAt 2 = .ok (.invokevirtual 262, 3) := by decide +kernel
theorem dX10_lineAt_5 : decode cX10_lineAt 5 = .ok (.ifCond .eq 19, 3) := by decide +kernel
theorem dX10_lineAt_8 : decode cX10_lineAt 8 = .ok (.iload_n 2, 1) := by decide +kernel
theorem dX10_lineAt_9 : decode cX10_lineAt 9 = .ok (.ifCond .lt 15, 3) := by decide +kernel
theorem dX10_lineAt_12 : decode cX10_lineAt 12 = .ok (.iload_n 2, 1) := by decide +kernel
theorem dX10_lineAt_13 : decode cX10_lineAt 13 = .ok (.aload_n 0, 1) := by decide +kernel
theorem dX10_lineAt_14 : decode cX10_lineAt 14 = .ok (.getfield 78, 3) := by decide +kernel
theorem dX10_lineAt_17 : decode cX10_lineAt 17 = .ok (.iload_n 1, 1) := by decide +kernel
theorem dX10_lineAt_18 : decode cX10_lineAt 18 = .ok (.invokevirtual 265, 3) := by decide +kernel
theorem dX10_lineAt_21 : decode cX10_lineAt 21 = .ok (.if_icmp .lt 10, 3) := by decide +kernel
theorem dX10_lineAt_24 : decode cX10_lineAt 24 = .ok (.aload_n 0, 1) := by decide +kernel
theorem dX10_lineAt_25 : decode cX10_lineAt 25 = .ok (.bipush 6, 2) := by decide +kernel
theorem dX10_lineAt_27 : decode cX10_lineAt 27 = .ok (.invokevirtual 117, 3) := by decide +kernel
theorem dX10_lineAt_30 : decode cX10_lineAt 30 = .ok (.ireturn, 1) := by decide +kernel
theorem dX10_lineAt_31 : decode cX10_lineAt 31 = .ok (.aload_n 0, 1) := by decide +kernel
theorem dX10_lineAt_32 : decode cX10_lineAt 32 = .ok (.aload_n 0, 1) := by decide +kernel
theorem dX10_lineAt_33 : decode cX10_lineAt 33 = .ok (.iload_n 1, 1) := by decide +kernel
theorem dX10_lineAt_34 : decode cX10_lineAt 34 = .ok (.iload_n 2, 1) := by decide +kernel
theorem dX10_lineAt_35 : decode cX10_lineAt 35 = .ok (.invokevirtual 268, 3) := by decide +kernel
theorem dX10_lineAt_38 : decode cX10_lineAt 38 = .ok (.invokevirtual 113, 3) := by decide +kernel
theorem dX10_lineAt_41 : decode cX10_lineAt 41 = .ok (.ireturn, 1) := by decide +kernel
theorem dX10_cellInLine_0 : decode cX10_cellInLine 0 = .ok (.iload_n 2, 1) := by decide +kernel
theorem dX10_cellInLine_1 : decode cX10_cellInLine 1 = .ok (.aload_n 0, 1) := by decide +kernel
theorem dX10_cellInLine_2 : decode cX10_cellInLine 2 = .ok (.getfield 78, 3) := by decide +kernel
theorem dX10_cellInLine_5 : decode cX10_cellInLine 5 = .ok (.getfield 271, 3) := by decide +kernel
theorem dX10_cellInLine_8 : decode cX10_cellInLine 8 = .ok (.iload_n 1, 1) := by decide +kernel
theorem dX10_cellInLine_9 : decode cX10_cellInLine 9 = .ok (.iaload, 1) := by decide +kernel
theorem dX10_cellInLine_10 : decode cX10_cellInLine 10 = .ok (.if_icmp .ge 23, 3) := by decide +kernel
theorem dX10_cellInLine_13 : decode cX10_cellInLine 13 = .ok (.aload_n 0, 1) := by decide +kernel
theorem dX10_cellInLine_14 : decode cX10_cellInLine 14 = .ok (.getfield 68, 3) := by decide +kernel
theorem dX10_cellInLine_17 : decode cX10_cellInLine 17 = .ok (.getfield 259, 3) := by decide +kernel
theorem dX10_cellInLine_20 : decode cX10_cellInLine 20 = .ok (.aload_n 0, 1) := by decide +kernel
theorem dX10_cellInLine_21 : decode cX10_cellInLine 21 = .ok (.getfield 78, 3) := by decide +kernel
theorem dX10_cellInLine_24 : decode cX10_cellInLine 24 = .ok (.getfield 274, 3) := by decide +kernel
theorem dX10_cellInLine_27 : decode cX10_cellInLine 27 = .ok (.iload_n 1, 1) := by decide +kernel
theorem dX10_cellInLine_28 : decode cX10_cellInLine 28 = .ok (.iaload, 1) := by decide +kernel
theorem dX10_cellInLine_29 : decode cX10_cellInLine 29 = .ok (.iload_n 2, 1) := by decide +kernel
theorem dX10_cellInLine_30 : decode cX10_cellInLine 30 = .ok (.iadd, 1) := by decide +kernel
theorem dX10_cellInLine_31 : decode cX10_cellInLine 31 = .ok (.iaload, 1) := by decide +kernel
theorem dX10_cellInLine_32 : decode cX10_cellInLine 32 = .ok (.ireturn, 1) := by decide +kernel
theorem dX10_cellInLine_33 : decode cX10_cellInLine 33 = .ok (.iload_n 2, 1) := by decide +kernel
theorem dX10_cellInLine_34 : decode cX10_cellInLine 34 = .ok (.aload_n 0, 1) := by decide +kernel
theorem dX10_cellInLine_35 : decode cX10_cellInLine 35 = .ok (.getfield 78, 3) := by decide +kernel
theorem dX10_cellInLine_38 : decode cX10_cellInLine 38 = .ok (.iload_n 1, 1) := by decide +kernel
theorem dX10_cellInLine_39 : decode cX10_cellInLine 39 = .ok (.invokevirtual 265, 3) := by decide +kernel
theorem dX10_cellInLine_42 : decode cX10_cellInLine 42 = .ok (.if_icmp .ge 15, 3) := by decide +kernel
theorem dX10_cellInLine_45 : decode cX10_cellInLine 45 = .ok (.aload_n 0, 1) := by decide +kernel
theorem dX10_cellInLine_46 : decode cX10_cellInLine 46 = .ok (.getfield 50, 3) := by decide +kernel
theorem dX10_cellInLine_49 : decode cX10_cellInLine 49 = .ok (.getfield 206, 3) := by decide +kernel
theorem dX10_cellInLine_52 : decode cX10_cellInLine 52 = .ok (.iconst 2, 1) := by decide +kernel
theorem dX10_cellInLine_53 : decode cX10_cellInLine 53 = .ok (.iaload, 1) := by decide +kernel
theorem dX10_cellInLine_54 : decode cX10_cellInLine 54 = .ok (.goto 4, 3) := by decide +kernel
theorem dX10_cellInLine_57 : decode cX10_cellInLine 57 = .ok (.iconst 0, 1) := by decide +kernel
theorem dX10_cellInLine_58 : decode cX10_cellInLine 58 = .ok (.ireturn, 1) := by decide +kernel
theorem dX10_onPage_0 : decode cX10_onPage 0 = .ok (.aload_n 0, 1) := by decide +kernel
theorem dX10_onPage_1 : decode cX10_onPage 1 = .ok (.getfield 50, 3) := by decide +kernel
theorem dX10_onPage_4 : decode cX10_onPage 4 = .ok (.getfield 206, 3) := by decide +kernel
theorem dX10_onPage_7 : decode cX10_onPage 7 = .ok (.iconst 4, 1) := by decide +kernel
theorem dX10_onPage_8 : decode cX10_onPage 8 = .ok (.iaload, 1) := by decide +kernel
theorem dX10_onPage_9 : decode cX10_onPage 9 = .ok (.istore 4, 2) := by decide +kernel
theorem dX10_onPage_11 : decode cX10_onPage 11 = .ok (.iload_n 3, 1) := by decide +kernel
theorem dX10_onPage_12 : decode cX10_onPage 12 = .ok (.ifCond .lt 26, 3) := by decide +kernel
theorem dX10_onPage_15 : decode cX10_onPage 15 = .ok (.iload_n 3, 1) := by decide +kernel
theorem dX10_onPage_16 : decode cX10_onPage 16 = .ok (.aload_n 0, 1) := by decide +kernel
theorem dX10_onPage_17 : decode cX10_onPage 17 = .ok (.getfield 50, 3) := by decide +kernel
theorem dX10_onPage_20 : decode cX10_onPage 20 = .ok (.getfield 206, 3) := by decide +kernel
theorem dX10_onPage_23 : decode cX10_onPage 23 = .ok (.iconst 3, 1) := by decide +kernel
theorem dX10_onPage_24 : decode cX10_onPage 24 = .ok (.iaload, 1) := by decide +kernel
theorem dX10_onPage_25 : decode cX10_onPage 25 = .ok (.if_icmp .ge 13, 3) := by decide +kernel
theorem dX10_onPage_28 : decode cX10_onPage 28 = .ok (.iload_n 2, 1) := by decide +kernel
theorem dX10_onPage_29 : decode cX10_onPage 29 = .ok (.ifCond .lt 9, 3) := by decide +kernel
theorem dX10_onPage_32 : decode cX10_onPage 32 = .ok (.iload_n 2, 1) := by decide +kernel
theorem dX10_onPage_33 : decode cX10_onPage 33 = .ok (.iload 4, 2) := by decide +kernel
theorem dX10_onPage_35 : decode cX10_onPage 35 = .ok (.if_icmp .lt 9, 3) := by decide +kernel
theorem dX10_onPage_38 : decode cX10_onPage 38 = .ok (.aload_n 0, 1) := by decide +kernel
theorem dX10_onPage_39 : decode cX10_onPage 39 = .ok (.iconst 1, 1) := by decide +kernel
theorem dX10_onPage_40 : decode cX10_onPage 40 = .ok (.invokevirtual 117, 3) := by decide +kernel
theorem dX10_onPage_43 : decode cX10_onPage 43 = .ok (.ireturn, 1) := by decide +kernel
theorem dX10_onPage_44 : decode cX10_onPage 44 = .ok (.aload_n 0, 1) := by decide +kernel
theorem dX10_onPage_45 : decode cX10_onPage 45 = .ok (.getfield 61, 3) := by decide +kernel
theorem dX10_onPage_48 : decode cX10_onPage 48 = .ok (.ifCond .eq 28, 3) := by decide +kernel
theorem dX10_onPage_51 : decode cX10_onPage 51 = .ok (.iload_n 1, 1) := by decide +kernel
theorem dX10_onPage_52 : decode cX10_onPage 52 = .ok (.ifCond .lt 24, 3) := by decide +kernel
theorem dX10_onPage_55 : decode cX10_onPage 55 = .ok (.iload_n 1, 1) := by decide +kernel
theorem dX10_onPage_56 : decode cX10_onPage 56 = .ok (.aload_n 0, 1) := by decide +kernel
theorem dX10_onPage_57 : decode cX10_onPage 57 = .ok (.invokevirtual 241, 3) := by decide +kernel
theorem dX10_onPage_60 : decode cX10_onPage 60 = .ok (.if_icmp .ge 16, 3) := by decide +kernel
theorem dX10_onPage_63 : decode cX10_onPage 63 = .ok (.aload_n 0, 1) := by decide +kernel
theorem dX10_onPage_64 : decode cX10_onPage 64 = .ok (.iload_n 1, 1) := by decide +kernel
theorem dX10_onPage_65 : decode cX10_onPage 65 = .ok (.iload 4, 2) := by decide +kernel
theorem dX10_onPage_67 : decode cX10_onPage 67 = .ok (.imul, 1) := by decide +kernel
theorem dX10_onPage_68 : decode cX10_onPage 68 = .ok (.iload_n 2, 1) := by decide +kernel
theorem dX10_onPage_69 : decode cX10_onPage 69 = .ok (.iadd, 1) := by decide +kernel
theorem dX10_onPage_70 : decode cX10_onPage 70 = .ok (.invokevirtual 262, 3) := by decide +kernel
theorem dX10_onPage_73 : decode cX10_onPage 73 = .ok (.ifCond .ne 10, 3) := by decide +kernel
theorem dX10_onPage_76 : decode cX10_onPage 76 = .ok (.aload_n 0, 1) := by decide +kernel
theorem dX10_onPage_77 : decode cX10_onPage 77 = .ok (.bipush 6, 2) := by decide +kernel
theorem dX10_onPage_79 : decode cX10_onPage 79 = .ok (.invokevirtual 117, 3) := by decide +kernel
theorem dX10_onPage_82 : decode cX10_onPage 82 = .ok (.ireturn, 1) := by decide +kernel
theorem dX10_onPage_83 : decode cX10_onPage 83 = .ok (.aload_n 0, 1) := by decide +kernel
theorem dX10_onPage_84 : decode cX10_onPage 84 = .ok (.aload_n 0, 1) := by decide +kernel
theorem dX10_onPage_85 : decode cX10_onPage 85 = .ok (.iload_n 1, 1) := by decide +kernel
theorem dX10_onPage_86 : decode cX10_onPage 86 = .ok (.iload 4, 2) := by decide +kernel
theorem dX10_onPage_88 : decode cX10_onPage 88 = .ok (.imul, 1) := by decide +kernel
theorem dX10_onPage_89 : decode cX10_onPage 89 = .ok (.iload_n 2, 1) := by decide +kernel
theorem dX10_onPage_90 : decode cX10_onPage 90 = .ok (.iadd, 1) := by decide +kernel
theorem dX10_onPage_91 : decode cX10_onPage 91 = .ok (.iload_n 3, 1) := by decide +kernel
theorem dX10_onPage_92 : decode cX10_onPage 92 = .ok (.invokevirtual 268, 3) := by decide +kernel
theorem dX10_onPage_95 : decode cX10_onPage 95 = .ok (.invokevirtual 113, 3) := by decide +kernel
theorem dX10_onPage_98 : decode cX10_onPage 98 = .ok (.ireturn, 1) := by decide +kernel
theorem dX10_hyphens_0 : decode cX10_hyphens 0 = .ok (.aload_n 0, 1) := by decide +kernel
theorem dX10_hyphens_1 : decode cX10_hyphens 1 = .ok (.aload_n 0, 1) := by decide +kernel
theorem dX10_hyphens_2 : decode cX10_hyphens 2 = .ok (.getfield 61, 3) := by decide +kernel
theorem dX10_hyphens_5 : decode cX10_hyphens 5 = .ok (.aload_n 0, 1) := by decide +kernel
theorem dX10_hyphens_6 : decode cX10_hyphens 6 = .ok (.getfield 78, 3) := by decide +kernel
theorem dX10_hyphens_9 : decode cX10_hyphens 9 = .ok (.invokevirtual 277, 3) := by decide +kernel
theorem dX10_hyphens_12 : decode cX10_hyphens 12 = .ok (.bipush 6, 2) := by decide +kernel
theorem dX10_hyphens_14 : decode cX10_hyphens 14 = .ok (.invokevirtual 209, 3) := by decide +kernel
theorem dX10_hyphens_17 : decode cX10_hyphens 17 = .ok (.ireturn, 1) := by decide +kernel
theorem dX10_used_0 : decode cX10_used 0 = .ok (.aload_n 0, 1) := by decide +kernel
theorem dX10_used_1 : decode cX10_used 1 = .ok (.getfield 50, 3) := by decide +kernel
theorem dX10_used_4 : decode cX10_used 4 = .ok (.iload_n 1, 1) := by decide +kernel
theorem dX10_used_5 : decode cX10_used 5 = .ok (.invokevirtual 213, 3) := by decide +kernel
theorem dX10_used_8 : decode cX10_used 8 = .ok (.ifCond .ne 9, 3) := by decide +kernel
theorem dX10_used_11 : decode cX10_used 11 = .ok (.aload_n 0, 1) := by decide +kernel
theorem dX10_used_12 : decode cX10_used 12 = .ok (.iconst 1, 1) := by decide +kernel
theorem dX10_used_13 : decode cX10_used 13 = .ok (.invokevirtual 117, 3) := by decide +kernel
theorem dX10_used_16 : decode cX10_used 16 = .ok (.ireturn, 1) := by decide +kernel
theorem dX10_used_17 : decode cX10_used 17 = .ok (.aload_n 0, 1) := by decide +kernel
theorem dX10_used_18 : decode cX10_used 18 = .ok (.aload_n 0, 1) := by decide +kernel
theorem dX10_used_19 : decode cX10_used 19 = .ok (.getfield 61, 3) := by decide +kernel
theorem dX10_used_22 : decode cX10_used 22 = .ok (.aload_n 0, 1) := by decide +kernel
theorem dX10_used_23 : decode cX10_used 23 = .ok (.getfield 68, 3) := by decide +kernel
theorem dX10_used_26 : decode cX10_used 26 = .ok (.getfield 280, 3) := by decide +kernel
theorem dX10_used_29 : decode cX10_used 29 = .ok (.iload_n 1, 1) := by decide +kernel
theorem dX10_used_30 : decode cX10_used 30 = .ok (.iaload, 1) := by decide +kernel
theorem dX10_used_31 : decode cX10_used 31 = .ok (.bipush 6, 2) := by decide +kernel
theorem dX10_used_33 : decode cX10_used 33 = .ok (.invokevirtual 209, 3) := by decide +kernel
theorem dX10_used_36 : decode cX10_used 36 = .ok (.ireturn, 1) := by decide +kernel
theorem dX10_useless_0 : decode cX10_useless 0 = .ok (.aload_n 0, 1) := by decide +kernel
theorem dX10_useless_1 : decode cX10_useless 1 = .ok (.getfield 61, 3) := by decide +kernel
theorem dX10_useless_4 : decode cX10_useless 4 = .ok (.ifCond .ne 10, 3) := by decide +kernel
theorem dX10_useless_7 : decode cX10_useless 7 = .ok (.aload_n 0, 1) := by decide +kernel
theorem dX10_useless_8 : decode cX10_useless 8 = .ok (.bipush 6, 2) := by decide +kernel
theorem dX10_useless_10 : decode cX10_useless 10 = .ok (.invokevirtual 117, 3) := by decide +kernel
theorem dX10_useless_13 : decode cX10_useless 13 = .ok (.ireturn, 1) := by decide +kernel
theorem dX10_useless_14 : decode cX10_useless 14 = .ok (.iconst 0, 1) := by decide +kernel
theorem dX10_useless_15 : decode cX10_useless 15 = .ok (.istore_n 1, 1) := by decide +kernel
theorem dX10_useless_16 : decode cX10_useless 16 = .ok (.iconst 0, 1) := by decide +kernel
theorem dX10_useless_17 : decode cX10_useless 17 = .ok (.istore_n 2, 1) := by decide +kernel
theorem dX10_useless_18 : decode cX10_useless 18 = .ok (.iload_n 2, 1) := by decide +kernel
theorem dX10_useless_19 : decode cX10_useless 19 = .ok (.aload_n 0, 1) := by decide +kernel
theorem dX10_useless_20 : decode cX10_useless 20 = .ok (.getfield 50, 3) := by decide +kernel
theorem dX10_useless_23 : decode cX10_useless 23 = .ok (.getfield 181, 3) := by decide +kernel
theorem dX10_useless_26 : decode cX10_useless 26 = .ok (.if_icmp .ge 38, 3) := by decide +kernel
theorem dX10_useless_29 : decode cX10_useless 29 = .ok (.aload_n 0, 1) := by decide +kernel
theorem dX10_useless_30 : decode cX10_useless 30 = .ok (.getfield 50, 3) := by decide +kernel
theorem dX10_useless_33 : decode cX10_useless 33 = .ok (.iload_n 2, 1) := by decide +kernel
theorem dX10_useless_34 : decode cX10_useless 34 = .ok (.invokevirtual 283, 3) := by decide +kernel
theorem dX10_useless_37 : decode cX10_useless 37 = .ok (.ifCond .eq 21, 3) := by decide +kernel
theorem dX10_useless_40 : decode cX10_useless 40 = .ok (.aload_n 0, 1) := by decide +kernel
theorem dX10_useless_41 : decode cX10_useless 41 = .ok (.getfield 68, 3) := by decide +kernel
theorem dX10_useless_44 : decode cX10_useless 44 = .ok (.getfield 280, 3) := by decide +kernel
theorem dX10_useless_47 : decode cX10_useless 47 = .ok (.iload_n 2, 1) := by decide +kernel
theorem dX10_useless_48 : decode cX10_useless 48 = .ok (.iaload, 1) := by decide +kernel
theorem dX10_useless_49 : decode cX10_useless 49 = .ok (.ifCond .ne 9, 3) := by decide +kernel
theorem dX10_useless_52 : decode cX10_useless 52 = .ok (.iload_n 1, 1) := by decide +kernel
theorem dX10_useless_53 : decode cX10_useless 53 = .ok (.iconst 1, 1) := by decide +kernel
theorem dX10_useless_54 : decode cX10_useless 54 = .ok (.iload_n 2, 1) := by decide +kernel
theorem dX10_useless_55 : decode cX10_useless 55 = .ok (.ishl, 1) := by decide +kernel
theorem dX10_useless_56 : decode cX10_useless 56 = .ok (.ior, 1) := by decide +kernel
theorem dX10_useless_57 : decode cX10_useless 57 = .ok (.istore_n 1, 1) := by decide +kernel
theorem dX10_useless_58 : decode cX10_useless 58 = .ok (.iinc 2 1, 3) := by decide +kernel
theorem dX10_useless_61 : decode cX10_useless 61 = .ok (.goto (-43), 3) := by decide +kernel
theorem dX10_useless_64 : decode cX10_useless 64 = .ok (.aload_n 0, 1) := by decide +kernel
theorem dX10_useless_65 : decode cX10_useless 65 = .ok (.iload_n 1, 1) := by decide +kernel
theorem dX10_useless_66 : decode cX10_useless 66 = .ok (.invokevirtual 113, 3) := by decide +kernel
theorem dX10_useless_69 : decode cX10_useless 69 = .ok (.ireturn, 1) := by decide +kernel
theorem dX10_dots_0 : decode cX10_dots 0 = .ok (.aload_n 0, 1) := by decide +kernel
theorem dX10_dots_1 : decode cX10_dots 1 = .ok (.getfield 61, 3) := by decide +kernel
theorem dX10_dots_4 : decode cX10_dots 4 = .ok (.ifCond .ne 10, 3) := by decide +kernel
theorem dX10_dots_7 : decode cX10_dots 7 = .ok (.aload_n 0, 1) := by decide +kernel
theorem dX10_dots_8 : decode cX10_dots 8 = .ok (.bipush 6, 2) := by decide +kernel
theorem dX10_dots_10 : decode cX10_dots 10 = .ok (.invokevirtual 117, 3) := by decide +kernel
theorem dX10_dots_13 : decode cX10_dots 13 = .ok (.ireturn, 1) := by decide +kernel
theorem dX10_dots_14 : decode cX10_dots 14 = .ok (.aload_n 0, 1) := by decide +kernel
theorem dX10_dots_15 : decode cX10_dots 15 = .ok (.aload_n 0, 1) := by decide +kernel
theorem dX10_dots_16 : decode cX10_dots 16 = .ok (.getfield 68, 3) := by decide +kernel
theorem dX10_dots_19 : decode cX10_dots 19 = .ok (.iconst 0, 1) := by decide +kernel
theorem dX10_dots_20 : decode cX10_dots 20 = .ok (.aload_n 0, 1) := by decide +kernel
theorem dX10_dots_21 : decode cX10_dots 21 = .ok (.getfield 68, 3) := by decide +kernel
theorem dX10_dots_24 : decode cX10_dots 24 = .ok (.getfield 200, 3) := by decide +kernel
theorem dX10_dots_27 : decode cX10_dots 27 = .ok (.invokevirtual 285, 3) := by decide +kernel
theorem dX10_dots_30 : decode cX10_dots 30 = .ok (.invokevirtual 113, 3) := by decide +kernel
theorem dX10_dots_33 : decode cX10_dots 33 = .ok (.ireturn, 1) := by decide +kernel
theorem dX10_plain_0 : decode cX10_plain 0 = .ok (.aload_n 0, 1) := by decide +kernel
theorem dX10_plain_1 : decode cX10_plain 1 = .ok (.getfield 61, 3) := by decide +kernel
theorem dX10_plain_4 : decode cX10_plain 4 = .ok (.ifCond .ne 10, 3) := by decide +kernel
theorem dX10_plain_7 : decode cX10_plain 7 = .ok (.aload_n 0, 1) := by decide +kernel
theorem dX10_plain_8 : decode cX10_plain 8 = .ok (.bipush 6, 2) := by decide +kernel
theorem dX10_plain_10 : decode cX10_plain 10 = .ok (.invokevirtual 117, 3) := by decide +kernel
theorem dX10_plain_13 : decode cX10_plain 13 = .ok (.ireturn, 1) := by decide +kernel
theorem dX10_plain_14 : decode cX10_plain 14 = .ok (.aload_n 0, 1) := by decide +kernel
theorem dX10_plain_15 : decode cX10_plain 15 = .ok (.invokevirtual 288, 3) := by decide +kernel
theorem dX10_plain_18 : decode cX10_plain 18 = .ok (.istore_n 1, 1) := by decide +kernel
theorem dX10_plain_19 : decode cX10_plain 19 = .ok (.aload_n 0, 1) := by decide +kernel
theorem dX10_plain_20 : decode cX10_plain 20 = .ok (.iload_n 1, 1) := by decide +kernel
theorem dX10_plain_21 : decode cX10_plain 21 = .ok (.iconst (-1), 1) := by decide +kernel
theorem dX10_plain_22 : decode cX10_plain 22 = .ok (.if_icmp .eq 7, 3) := by decide +kernel
theorem dX10_plain_25 : decode cX10_plain 25 = .ok (.iconst 1, 1) := by decide +kernel
theorem dX10_plain_26 : decode cX10_plain 26 = .ok (.goto 4, 3) := by decide +kernel
theorem dX10_plain_29 : decode cX10_plain 29 = .ok (.iconst 0, 1) := by decide +kernel
theorem dX10_plain_30 : decode cX10_plain 30 = .ok (.iload_n 1, 1) := by decide +kernel
theorem dX10_plain_31 : decode cX10_plain 31 = .ok (.bipush 7, 2) := by decide +kernel
theorem dX10_plain_33 : decode cX10_plain 33 = .ok (.invokevirtual 209, 3) := by decide +kernel
theorem dX10_plain_36 : decode cX10_plain 36 = .ok (.ireturn, 1) := by decide +kernel
theorem dX10_plainCells_0 : decode cX10_plainCells 0 = .ok (.aload_n 0, 1) := by decide +kernel
theorem dX10_plainCells_1 : decode cX10_plainCells 1 = .ok (.getfield 57, 3) := by decide +kernel
theorem dX10_plainCells_4 : decode cX10_plainCells 4 = .ok (.aload_n 0, 1) := by decide +kernel
theorem dX10_plainCells_5 : decode cX10_plainCells 5 = .ok (.getfield 50, 3) := by decide +kernel
theorem dX10_plainCells_8 : decode cX10_plainCells 8 = .ok (.invokevirtual 291, 3) := by decide +kernel
theorem dX10_plainCells_11 : decode cX10_plainCells 11 = .ok (.istore_n 1, 1) := by decide +kernel
theorem dX10_plainCells_12 : decode cX10_plainCells 12 = .ok (.iload_n 1, 1) := by decide +kernel
theorem dX10_plainCells_13 : decode cX10_plainCells 13 = .ok (.iconst (-1), 1) := by decide +kernel
theorem dX10_plainCells_14 : decode cX10_plainCells 14 = .ok (.if_icmp .ne 7, 3) := by decide +kernel
theorem dX10_plainCells_17 : decode cX10_plainCells 17 = .ok (.iconst (-1), 1) := by decide +kernel
theorem dX10_plainCells_18 : decode cX10_plainCells 18 = .ok (.goto 9, 3) := by decide +kernel
theorem dX10_plainCells_21 : decode cX10_plainCells 21 = .ok (.iload_n 1, 1) := by decide +kernel
theorem dX10_plainCells_22 : decode cX10_plainCells 22 = .ok (.aload_n 0, 1) := by decide +kernel
theorem dX10_plainCells_23 : decode cX10_plainCells 23 = .ok (.invokevirtual 295, 3) := by decide +kernel
theorem dX10_plainCells_26 : decode cX10_plainCells 26 = .ok (.iadd, 1) := by decide +kernel
theorem dX10_plainCells_27 : decode cX10_plainCells 27 = .ok (.ireturn, 1) := by decide +kernel
theorem dX10_cellsBesideLetters_0 : decode cX10_cellsBesideLetters 0 = .ok (.aload_n 0, 1) := by decide +kernel
theorem dX10_cellsBesideLetters_1 : decode cX10_cellsBesideLetters 1 = .ok (.getfield 68, 3) := by decide +kernel
theorem dX10_cellsBesideLetters_4 : decode cX10_cellsBesideLetters 4 = .ok (.getfield 200, 3) := by decide +kernel
theorem dX10_cellsBesideLetters_7 : decode cX10_cellsBesideLetters 7 = .ok (.aload_n 0, 1) := by decide +kernel
theorem dX10_cellsBesideLetters_8 : decode cX10_cellsBesideLetters 8 = .ok (.getfield 68, 3) := by decide +kernel
theorem dX10_cellsBesideLetters_11 : decode cX10_cellsBesideLetters 11 = .ok (.getfield 298, 3) := by decide +kernel
theorem dX10_cellsBesideLetters_14 : decode cX10_cellsBesideLetters 14 = .ok (.isub, 1) := by decide +kernel
theorem dX10_cellsBesideLetters_15 : decode cX10_cellsBesideLetters 15 = .ok (.ireturn, 1) := by decide +kernel
theorem dX10_fewest_0 : decode cX10_fewest 0 = .ok (.aload_n 0, 1) := by decide +kernel
theorem dX10_fewest_1 : decode cX10_fewest 1 = .ok (.getfield 61, 3) := by decide +kernel
theorem dX10_fewest_4 : decode cX10_fewest 4 = .ok (.ifCond .ne 10, 3) := by decide +kernel
theorem dX10_fewest_7 : decode cX10_fewest 7 = .ok (.aload_n 0, 1) := by decide +kernel
theorem dX10_fewest_8 : decode cX10_fewest 8 = .ok (.bipush 6, 2) := by decide +kernel
theorem dX10_fewest_10 : decode cX10_fewest 10 = .ok (.invokevirtual 117, 3) := by decide +kernel
theorem dX10_fewest_13 : decode cX10_fewest 13 = .ok (.ireturn, 1) := by decide +kernel
theorem dX10_fewest_14 : decode cX10_fewest 14 = .ok (.aload_n 0, 1) := by decide +kernel
theorem dX10_fewest_15 : decode cX10_fewest 15 = .ok (.aload_n 0, 1) := by decide +kernel
theorem dX10_fewest_16 : decode cX10_fewest 16 = .ok (.getfield 50, 3) := by decide +kernel
theorem dX10_fewest_19 : decode cX10_fewest 19 = .ok (.getfield 184, 3) := by decide +kernel
theorem dX10_fewest_22 : decode cX10_fewest 22 = .ok (.invokevirtual 301, 3) := by decide +kernel
theorem dX10_fewest_25 : decode cX10_fewest 25 = .ok (.iconst (-1), 1) := by decide +kernel
theorem dX10_fewest_26 : decode cX10_fewest 26 = .ok (.if_icmp .ne 10, 3) := by decide +kernel
theorem dX10_fewest_29 : decode cX10_fewest 29 = .ok (.aload_n 0, 1) := by decide +kernel
theorem dX10_fewest_30 : decode cX10_fewest 30 = .ok (.bipush 7, 2) := by decide +kernel
theorem dX10_fewest_32 : decode cX10_fewest 32 = .ok (.invokevirtual 117, 3) := by decide +kernel
theorem dX10_fewest_35 : decode cX10_fewest 35 = .ok (.ireturn, 1) := by decide +kernel
theorem dX10_fewest_36 : decode cX10_fewest 36 = .ok (.aload_n 0, 1) := by decide +kernel
theorem dX10_fewest_37 : decode cX10_fewest 37 = .ok (.aload_n 0, 1) := by decide +kernel
theorem dX10_fewest_38 : decode cX10_fewest 38 = .ok (.getfield 57, 3) := by decide +kernel
theorem dX10_fewest_41 : decode cX10_fewest 41 = .ok (.aload_n 0, 1) := by decide +kernel
theorem dX10_fewest_42 : decode cX10_fewest 42 = .ok (.getfield 50, 3) := by decide +kernel
theorem dX10_fewest_45 : decode cX10_fewest 45 = .ok (.invokevirtual 304, 3) := by decide +kernel
theorem dX10_fewest_48 : decode cX10_fewest 48 = .ok (.aload_n 0, 1) := by decide +kernel
theorem dX10_fewest_49 : decode cX10_fewest 49 = .ok (.invokevirtual 295, 3) := by decide +kernel
theorem dX10_fewest_52 : decode cX10_fewest 52 = .ok (.iadd, 1) := by decide +kernel
theorem dX10_fewest_53 : decode cX10_fewest 53 = .ok (.invokevirtual 113, 3) := by decide +kernel
theorem dX10_fewest_56 : decode cX10_fewest 56 = .ok (.ireturn, 1) := by decide +kernel
theorem dX10_cellsWith_0 : decode cX10_cellsWith 0 = .ok (.aload_n 0, 1) := by decide +kernel
theorem dX10_cellsWith_1 : decode cX10_cellsWith 1 = .ok (.getfield 72, 3) := by decide +kernel
theorem dX10_cellsWith_4 : decode cX10_cellsWith 4 = .ok (.aload_n 0, 1) := by decide +kernel
theorem dX10_cellsWith_5 : decode cX10_cellsWith 5 = .ok (.getfield 57, 3) := by decide +kernel
theorem dX10_cellsWith_8 : decode cX10_cellsWith 8 = .ok (.getfield 234, 3) := by decide +kernel
theorem dX10_cellsWith_11 : decode cX10_cellsWith 11 = .ok (.aload_n 0, 1) := by decide +kernel
theorem dX10_cellsWith_12 : decode cX10_cellsWith 12 = .ok (.getfield 57, 3) := by decide +kernel
theorem dX10_cellsWith_15 : decode cX10_cellsWith 15 = .ok (.getfield 237, 3) := by decide +kernel
theorem dX10_cellsWith_18 : decode cX10_cellsWith 18 = .ok (.aload_n 0, 1) := by decide +kernel
theorem dX10_cellsWith_19 : decode cX10_cellsWith 19 = .ok (.getfield 50, 3) := by decide +kernel
theorem dX10_cellsWith_22 : decode cX10_cellsWith 22 = .ok (.iload_n 1, 1) := by decide +kernel
theorem dX10_cellsWith_23 : decode cX10_cellsWith 23 = .ok (.invokevirtual 187, 3) := by decide +kernel
theorem dX10_cellsWith_26 : decode cX10_cellsWith 26 = .ok (.ifCond .eq 13, 3) := by decide +kernel
theorem dX10_cellsWith_29 : decode cX10_cellsWith 29 = .ok (.aload_n 0, 1) := by decide +kernel
theorem dX10_cellsWith_30 : decode cX10_cellsWith 30 = .ok (.getfield 72, 3) := by decide +kernel
theorem dX10_cellsWith_33 : decode cX10_cellsWith 33 = .ok (.getfield 200, 3) := by decide +kernel
theorem dX10_cellsWith_36 : decode cX10_cellsWith 36 = .ok (.goto 4, 3) := by decide +kernel
theorem dX10_cellsWith_39 : decode cX10_cellsWith 39 = .ok (.iconst (-1), 1) := by decide +kernel
theorem dX10_cellsWith_40 : decode cX10_cellsWith 40 = .ok (.ireturn, 1) := by decide +kernel
theorem dX10_saving_0 : decode cX10_saving 0 = .ok (.aload_n 0, 1) := by decide +kernel
theorem dX10_saving_1 : decode cX10_saving 1 = .ok (.getfield 50, 3) := by decide +kernel
theorem dX10_saving_4 : decode cX10_saving 4 = .ok (.iload_n 1, 1) := by decide +kernel
theorem dX10_saving_5 : decode cX10_saving 5 = .ok (.invokevirtual 213, 3) := by decide +kernel
theorem dX10_saving_8 : decode cX10_saving 8 = .ok (.ifCond .ne 9, 3) := by decide +kernel
theorem dX10_saving_11 : decode cX10_saving 11 = .ok (.aload_n 0, 1) := by decide +kernel
theorem dX10_saving_12 : decode cX10_saving 12 = .ok (.iconst 1, 1) := by decide +kernel
theorem dX10_saving_13 : decode cX10_saving 13 = .ok (.invokevirtual 117, 3) := by decide +kernel
theorem dX10_saving_16 : decode cX10_saving 16 = .ok (.ireturn, 1) := by decide +kernel
theorem dX10_saving_17 : decode cX10_saving 17 = .ok (.aload_n 0, 1) := by decide +kernel
theorem dX10_saving_18 : decode cX10_saving 18 = .ok (.getfield 61, 3) := by decide +kernel
theorem dX10_saving_21 : decode cX10_saving 21 = .ok (.ifCond .ne 10, 3) := by decide +kernel
theorem dX10_saving_24 : decode cX10_saving 24 = .ok (.aload_n 0, 1) := by decide +kernel
theorem dX10_saving_25 : decode cX10_saving 25 = .ok (.bipush 6, 2) := by decide +kernel
theorem dX10_saving_27 : decode cX10_saving 27 = .ok (.invokevirtual 117, 3) := by decide +kernel
theorem dX10_saving_30 : decode cX10_saving 30 = .ok (.ireturn, 1) := by decide +kernel
theorem dX10_saving_31 : decode cX10_saving 31 = .ok (.aload_n 0, 1) := by decide +kernel
theorem dX10_saving_32 : decode cX10_saving 32 = .ok (.aload_n 0, 1) := by decide +kernel
theorem dX10_saving_33 : decode cX10_saving 33 = .ok (.getfield 50, 3) := by decide +kernel
theorem dX10_saving_36 : decode cX10_saving 36 = .ok (.getfield 184, 3) := by decide +kernel
theorem dX10_saving_39 : decode cX10_saving 39 = .ok (.invokevirtual 301, 3) := by decide +kernel
theorem dX10_saving_42 : decode cX10_saving 42 = .ok (.istore_n 2, 1) := by decide +kernel
theorem dX10_saving_43 : decode cX10_saving 43 = .ok (.iload_n 2, 1) := by decide +kernel
theorem dX10_saving_44 : decode cX10_saving 44 = .ok (.iconst (-1), 1) := by decide +kernel
theorem dX10_saving_45 : decode cX10_saving 45 = .ok (.if_icmp .ne 10, 3) := by decide +kernel
theorem dX10_saving_48 : decode cX10_saving 48 = .ok (.aload_n 0, 1) := by decide +kernel
theorem dX10_saving_49 : decode cX10_saving 49 = .ok (.bipush 7, 2) := by decide +kernel
theorem dX10_saving_51 : decode cX10_saving 51 = .ok (.invokevirtual 117, 3) := by decide +kernel
theorem dX10_saving_54 : decode cX10_saving 54 = .ok (.ireturn, 1) := by decide +kernel
theorem dX10_saving_55 : decode cX10_saving 55 = .ok (.aload_n 0, 1) := by decide +kernel
theorem dX10_saving_56 : decode cX10_saving 56 = .ok (.aload_n 0, 1) := by decide +kernel
theorem dX10_saving_57 : decode cX10_saving 57 = .ok (.getfield 50, 3) := by decide +kernel
theorem dX10_saving_60 : decode cX10_saving 60 = .ok (.getfield 184, 3) := by decide +kernel
theorem dX10_saving_63 : decode cX10_saving 63 = .ok (.iconst 1, 1) := by decide +kernel
theorem dX10_saving_64 : decode cX10_saving 64 = .ok (.iload_n 1, 1) := by decide +kernel
theorem dX10_saving_65 : decode cX10_saving 65 = .ok (.ishl, 1) := by decide +kernel
theorem dX10_saving_66 : decode cX10_saving 66 = .ok (.ior, 1) := by decide +kernel
theorem dX10_saving_67 : decode cX10_saving 67 = .ok (.invokevirtual 301, 3) := by decide +kernel
theorem dX10_saving_70 : decode cX10_saving 70 = .ok (.istore_n 3, 1) := by decide +kernel
theorem dX10_saving_71 : decode cX10_saving 71 = .ok (.aload_n 0, 1) := by decide +kernel
theorem dX10_saving_72 : decode cX10_saving 72 = .ok (.iload_n 3, 1) := by decide +kernel
theorem dX10_saving_73 : decode cX10_saving 73 = .ok (.iconst (-1), 1) := by decide +kernel
theorem dX10_saving_74 : decode cX10_saving 74 = .ok (.if_icmp .eq 7, 3) := by decide +kernel
theorem dX10_saving_77 : decode cX10_saving 77 = .ok (.iconst 1, 1) := by decide +kernel
theorem dX10_saving_78 : decode cX10_saving 78 = .ok (.goto 4, 3) := by decide +kernel
theorem dX10_saving_81 : decode cX10_saving 81 = .ok (.iconst 0, 1) := by decide +kernel
theorem dX10_saving_82 : decode cX10_saving 82 = .ok (.iload_n 3, 1) := by decide +kernel
theorem dX10_saving_83 : decode cX10_saving 83 = .ok (.iload_n 2, 1) := by decide +kernel
theorem dX10_saving_84 : decode cX10_saving 84 = .ok (.isub, 1) := by decide +kernel
theorem dX10_saving_85 : decode cX10_saving 85 = .ok (.bipush 7, 2) := by decide +kernel
theorem dX10_saving_87 : decode cX10_saving 87 = .ok (.invokevirtual 209, 3) := by decide +kernel
theorem dX10_saving_90 : decode cX10_saving 90 = .ok (.ireturn, 1) := by decide +kernel
theorem dX10_cheapest_0 : decode cX10_cheapest 0 = .ok (.aload_n 0, 1) := by decide +kernel
theorem dX10_cheapest_1 : decode cX10_cheapest 1 = .ok (.getfield 61, 3) := by decide +kernel
theorem dX10_cheapest_4 : decode cX10_cheapest 4 = .ok (.ifCond .ne 10, 3) := by decide +kernel
theorem dX10_cheapest_7 : decode cX10_cheapest 7 = .ok (.aload_n 0, 1) := by decide +kernel
theorem dX10_cheapest_8 : decode cX10_cheapest 8 = .ok (.bipush 6, 2) := by decide +kernel
theorem dX10_cheapest_10 : decode cX10_cheapest 10 = .ok (.invokevirtual 117, 3) := by decide +kernel
theorem dX10_cheapest_13 : decode cX10_cheapest 13 = .ok (.ireturn, 1) := by decide +kernel
theorem dX10_cheapest_14 : decode cX10_cheapest 14 = .ok (.iconst (-1), 1) := by decide +kernel
theorem dX10_cheapest_15 : decode cX10_cheapest 15 = .ok (.istore_n 1, 1) := by decide +kernel
theorem dX10_cheapest_16 : decode cX10_cheapest 16 = .ok (.iconst 0, 1) := by decide +kernel
theorem dX10_cheapest_17 : decode cX10_cheapest 17 = .ok (.istore_n 2, 1) := by decide +kernel
theorem dX10_cheapest_18 : decode cX10_cheapest 18 = .ok (.iconst 0, 1) := by decide +kernel
theorem dX10_cheapest_19 : decode cX10_cheapest 19 = .ok (.istore_n 3, 1) := by decide +kernel
theorem dX10_cheapest_20 : decode cX10_cheapest 20 = .ok (.iload_n 3, 1) := by decide +kernel
theorem dX10_cheapest_21 : decode cX10_cheapest 21 = .ok (.aload_n 0, 1) := by decide +kernel
theorem dX10_cheapest_22 : decode cX10_cheapest 22 = .ok (.getfield 50, 3) := by decide +kernel
theorem dX10_cheapest_25 : decode cX10_cheapest 25 = .ok (.getfield 181, 3) := by decide +kernel
theorem dX10_cheapest_28 : decode cX10_cheapest 28 = .ok (.if_icmp .ge 63, 3) := by decide +kernel
theorem dX10_cheapest_31 : decode cX10_cheapest 31 = .ok (.aload_n 0, 1) := by decide +kernel
theorem dX10_cheapest_32 : decode cX10_cheapest 32 = .ok (.getfield 50, 3) := by decide +kernel
theorem dX10_cheapest_35 : decode cX10_cheapest 35 = .ok (.iload_n 3, 1) := by decide +kernel
theorem dX10_cheapest_36 : decode cX10_cheapest 36 = .ok (.invokevirtual 283, 3) := by decide +kernel
theorem dX10_cheapest_39 : decode cX10_cheapest 39 = .ok (.ifCond .eq 21, 3) := by decide +kernel
theorem dX10_cheapest_42 : decode cX10_cheapest 42 = .ok (.aload_n 0, 1) := by decide +kernel
theorem dX10_cheapest_43 : decode cX10_cheapest 43 = .ok (.aload_n 0, 1) := by decide +kernel
theorem dX10_cheapest_44 : decode cX10_cheapest 44 = .ok (.getfield 50, 3) := by decide +kernel
theorem dX10_cheapest_47 : decode cX10_cheapest 47 = .ok (.getfield 184, 3) := by decide +kernel
theorem dX10_cheapest_50 : decode cX10_cheapest 50 = .ok (.iconst 1, 1) := by decide +kernel
theorem dX10_cheapest_51 : decode cX10_cheapest 51 = .ok (.iload_n 3, 1) := by decide +kernel
theorem dX10_cheapest_52 : decode cX10_cheapest 52 = .ok (.ishl, 1) := by decide +kernel
theorem dX10_cheapest_53 : decode cX10_cheapest 53 = .ok (.ior, 1) := by decide +kernel
theorem dX10_cheapest_54 : decode cX10_cheapest 54 = .ok (.invokevirtual 301, 3) := by decide +kernel
theorem dX10_cheapest_57 : decode cX10_cheapest 57 = .ok (.goto 4, 3) := by decide +kernel
theorem dX10_cheapest_60 : decode cX10_cheapest 60 = .ok (.iconst (-1), 1) := by decide +kernel
theorem dX10_cheapest_61 : decode cX10_cheapest 61 = .ok (.istore 4, 2) := by decide +kernel
theorem dX10_cheapest_63 : decode cX10_cheapest 63 = .ok (.iload 4, 2) := by decide +kernel
theorem dX10_cheapest_65 : decode cX10_cheapest 65 = .ok (.iconst (-1), 1) := by decide +kernel
theorem dX10_cheapest_66 : decode cX10_cheapest 66 = .ok (.if_icmp .eq 19, 3) := by decide +kernel
theorem dX10_cheapest_69 : decode cX10_cheapest 69 = .ok (.iload_n 1, 1) := by decide +kernel
theorem dX10_cheapest_70 : decode cX10_cheapest 70 = .ok (.iconst (-1), 1) := by decide +kernel
theorem dX10_cheapest_71 : decode cX10_cheapest 71 = .ok (.if_icmp .eq 9, 3) := by decide +kernel
theorem dX10_cheapest_74 : decode cX10_cheapest 74 = .ok (.iload 4, 2) := by decide +kernel
theorem dX10_cheapest_76 : decode cX10_cheapest 76 = .ok (.iload_n 2, 1) := by decide +kernel
theorem dX10_cheapest_77 : decode cX10_cheapest 77 = .ok (.if_icmp .ge 8, 3) := by decide +kernel
theorem dX10_cheapest_80 : decode cX10_cheapest 80 = .ok (.iload_n 3, 1) := by decide +kernel
theorem dX10_cheapest_81 : decode cX10_cheapest 81 = .ok (.istore_n 1, 1) := by decide +kernel
theorem dX10_cheapest_82 : decode cX10_cheapest 82 = .ok (.iload 4, 2) := by decide +kernel
theorem dX10_cheapest_84 : decode cX10_cheapest 84 = .ok (.istore_n 2, 1) := by decide +kernel
theorem dX10_cheapest_85 : decode cX10_cheapest 85 = .ok (.iinc 3 1, 3) := by decide +kernel
theorem dX10_cheapest_88 : decode cX10_cheapest 88 = .ok (.goto (-68), 3) := by decide +kernel
theorem dX10_cheapest_91 : decode cX10_cheapest 91 = .ok (.iload_n 1, 1) := by decide +kernel
theorem dX10_cheapest_92 : decode cX10_cheapest 92 = .ok (.iconst (-1), 1) := by decide +kernel
theorem dX10_cheapest_93 : decode cX10_cheapest 93 = .ok (.if_icmp .ne 10, 3) := by decide +kernel
theorem dX10_cheapest_96 : decode cX10_cheapest 96 = .ok (.aload_n 0, 1) := by decide +kernel
theorem dX10_cheapest_97 : decode cX10_cheapest 97 = .ok (.bipush 6, 2) := by decide +kernel
theorem dX10_cheapest_99 : decode cX10_cheapest 99 = .ok (.invokevirtual 117, 3) := by decide +kernel
theorem dX10_cheapest_102 : decode cX10_cheapest 102 = .ok (.ireturn, 1) := by decide +kernel
theorem dX10_cheapest_103 : decode cX10_cheapest 103 = .ok (.aload_n 0, 1) := by decide +kernel
theorem dX10_cheapest_104 : decode cX10_cheapest 104 = .ok (.aload_n 0, 1) := by decide +kernel
theorem dX10_cheapest_105 : decode cX10_cheapest 105 = .ok (.aload_n 0, 1) := by decide +kernel
theorem dX10_cheapest_106 : decode cX10_cheapest 106 = .ok (.getfield 50, 3) := by decide +kernel
theorem dX10_cheapest_109 : decode cX10_cheapest 109 = .ok (.getfield 184, 3) := by decide +kernel
theorem dX10_cheapest_112 : decode cX10_cheapest 112 = .ok (.invokevirtual 301, 3) := by decide +kernel
theorem dX10_cheapest_115 : decode cX10_cheapest 115 = .ok (.iconst (-1), 1) := by decide +kernel
theorem dX10_cheapest_116 : decode cX10_cheapest 116 = .ok (.if_icmp .eq 7, 3) := by decide +kernel
theorem dX10_cheapest_119 : decode cX10_cheapest 119 = .ok (.iconst 1, 1) := by decide +kernel
theorem dX10_cheapest_120 : decode cX10_cheapest 120 = .ok (.goto 4, 3) := by decide +kernel
theorem dX10_cheapest_123 : decode cX10_cheapest 123 = .ok (.iconst 0, 1) := by decide +kernel
theorem dX10_cheapest_124 : decode cX10_cheapest 124 = .ok (.iload_n 1, 1) := by decide +kernel
theorem dX10_cheapest_125 : decode cX10_cheapest 125 = .ok (.bipush 7, 2) := by decide +kernel
theorem dX10_cheapest_127 : decode cX10_cheapest 127 = .ok (.invokevirtual 209, 3) := by decide +kernel
theorem dX10_cheapest_130 : decode cX10_cheapest 130 = .ok (.ireturn, 1) := by decide +kernel
theorem dX10_piece_0 : decode cX10_piece 0 = .ok (.iload_n 2, 1) := by decide +kernel
theorem dX10_piece_1 : decode cX10_piece 1 = .ok (.ifCond .lt 8, 3) := by decide +kernel
theorem dX10_piece_4 : decode cX10_piece 4 = .ok (.iload_n 2, 1) := by decide +kernel
theorem dX10_piece_5 : decode cX10_piece 5 = .ok (.iconst 1, 1) := by decide +kernel
theorem dX10_piece_6 : decode cX10_piece 6 = .ok (.if_icmp .le 9, 3) := by decide +kernel
theorem dX10_piece_9 : decode cX10_piece 9 = .ok (.aload_n 0, 1) := by decide +kernel
theorem dX10_piece_10 : decode cX10_piece 10 = .ok (.iconst 1, 1) := by decide +kernel
theorem dX10_piece_11 : decode cX10_piece 11 = .ok (.invokevirtual 117, 3) := by decide +kernel
theorem dX10_piece_14 : decode cX10_piece 14 = .ok (.ireturn, 1) := by decide +kernel
theorem dX10_piece_15 : decode cX10_piece 15 = .ok (.aload_n 0, 1) := by decide +kernel
theorem dX10_piece_16 : decode cX10_piece 16 = .ok (.getfield 61, 3) := by decide +kernel
theorem dX10_piece_19 : decode cX10_piece 19 = .ok (.ifCond .eq 18, 3) := by decide +kernel
theorem dX10_piece_22 : decode cX10_piece 22 = .ok (.iload_n 1, 1) := by decide +kernel
theorem dX10_piece_23 : decode cX10_piece 23 = .ok (.ifCond .lt 14, 3) := by decide +kernel
theorem dX10_piece_26 : decode cX10_piece 26 = .ok (.iload_n 1, 1) := by decide +kernel
theorem dX10_piece_27 : decode cX10_piece 27 = .ok (.aload_n 0, 1) := by decide +kernel
theorem dX10_piece_28 : decode cX10_piece 28 = .ok (.getfield 78, 3) := by decide +kernel
theorem dX10_piece_31 : decode cX10_piece 31 = .ok (.getfield 245, 3) := by decide +kernel
theorem dX10_piece_34 : decode cX10_piece 34 = .ok (.if_icmp .lt 10, 3) := by decide +kernel
theorem dX10_piece_37 : decode cX10_piece 37 = .ok (.aload_n 0, 1) := by decide +kernel
theorem dX10_piece_38 : decode cX10_piece 38 = .ok (.bipush 6, 2) := by decide +kernel
theorem dX10_piece_40 : decode cX10_piece 40 = .ok (.invokevirtual 117, 3) := by decide +kernel
theorem dX10_piece_43 : decode cX10_piece 43 = .ok (.ireturn, 1) := by decide +kernel
theorem dX10_piece_44 : decode cX10_piece 44 = .ok (.aload_n 0, 1) := by decide +kernel
theorem dX10_piece_45 : decode cX10_piece 45 = .ok (.iload_n 2, 1) := by decide +kernel
theorem dX10_piece_46 : decode cX10_piece 46 = .ok (.ifCond .ne 15, 3) := by decide +kernel
theorem dX10_piece_49 : decode cX10_piece 49 = .ok (.aload_n 0, 1) := by decide +kernel
theorem dX10_piece_50 : decode cX10_piece 50 = .ok (.getfield 78, 3) := by decide +kernel
theorem dX10_piece_53 : decode cX10_piece 53 = .ok (.getfield 307, 3) := by decide +kernel
theorem dX10_piece_56 : decode cX10_piece 56 = .ok (.iload_n 1, 1) := by decide +kernel
theorem dX10_piece_57 : decode cX10_piece 57 = .ok (.iaload, 1) := by decide +kernel
theorem dX10_piece_58 : decode cX10_piece 58 = .ok (.goto 12, 3) := by decide +kernel
theorem dX10_piece_61 : decode cX10_piece 61 = .ok (.aload_n 0, 1) := by decide +kernel
theorem dX10_piece_62 : decode cX10_piece 62 = .ok (.getfield 78, 3) := by decide +kernel
theorem dX10_piece_65 : decode cX10_piece 65 = .ok (.getfield 310, 3) := by decide +kernel
theorem dX10_piece_68 : decode cX10_piece 68 = .ok (.iload_n 1, 1) := by decide +kernel
theorem dX10_piece_69 : decode cX10_piece 69 = .ok (.iaload, 1) := by decide +kernel
theorem dX10_piece_70 : decode cX10_piece 70 = .ok (.invokevirtual 113, 3) := by decide +kernel
theorem dX10_piece_73 : decode cX10_piece 73 = .ok (.ireturn, 1) := by decide +kernel
theorem dX10_by_0 : decode cX10_by 0 = .ok (.aload_n 0, 1) := by decide +kernel
theorem dX10_by_1 : decode cX10_by 1 = .ok (.iload_n 1, 1) := by decide +kernel
theorem dX10_by_2 : decode cX10_by 2 = .ok (.invokevirtual 256, 3) := by decide +kernel
theorem dX10_by_5 : decode cX10_by 5 = .ok (.ifCond .ne 10, 3) := by decide +kernel
theorem dX10_by_8 : decode cX10_by 8 = .ok (.aload_n 0, 1) := by decide +kernel
theorem dX10_by_9 : decode cX10_by 9 = .ok (.bipush 6, 2) := by decide +kernel
theorem dX10_by_11 : decode cX10_by 11 = .ok (.invokevirtual 117, 3) := by decide +kernel
theorem dX10_by_14 : decode cX10_by 14 = .ok (.ireturn, 1) := by decide +kernel
theorem dX10_by_15 : decode cX10_by 15 = .ok (.aload_n 0, 1) := by decide +kernel
theorem dX10_by_16 : decode cX10_by 16 = .ok (.aload_n 0, 1) := by decide +kernel
theorem dX10_by_17 : decode cX10_by 17 = .ok (.getfield 68, 3) := by decide +kernel
theorem dX10_by_20 : decode cX10_by 20 = .ok (.getfield 313, 3) := by decide +kernel
theorem dX10_by_23 : decode cX10_by 23 = .ok (.iload_n 1, 1) := by decide +kernel
theorem dX10_by_24 : decode cX10_by 24 = .ok (.iaload, 1) := by decide +kernel
theorem dX10_by_25 : decode cX10_by 25 = .ok (.iconst (-1), 1) := by decide +kernel
theorem dX10_by_26 : decode cX10_by 26 = .ok (.if_icmp .eq 7, 3) := by decide +kernel
theorem dX10_by_29 : decode cX10_by 29 = .ok (.iconst 1, 1) := by decide +kernel
theorem dX10_by_30 : decode cX10_by 30 = .ok (.goto 4, 3) := by decide +kernel
theorem dX10_by_33 : decode cX10_by 33 = .ok (.iconst 0, 1) := by decide +kernel
theorem dX10_by_34 : decode cX10_by 34 = .ok (.aload_n 0, 1) := by decide +kernel
theorem dX10_by_35 : decode cX10_by 35 = .ok (.getfield 68, 3) := by decide +kernel
theorem dX10_by_38 : decode cX10_by 38 = .ok (.getfield 313, 3) := by decide +kernel
theorem dX10_by_41 : decode cX10_by 41 = .ok (.iload_n 1, 1) := by decide +kernel
theorem dX10_by_42 : decode cX10_by 42 = .ok (.iaload, 1) := by decide +kernel
theorem dX10_by_43 : decode cX10_by 43 = .ok (.bipush 6, 2) := by decide +kernel
theorem dX10_by_45 : decode cX10_by 45 = .ok (.invokevirtual 209, 3) := by decide +kernel
theorem dX10_by_48 : decode cX10_by 48 = .ok (.ireturn, 1) := by decide +kernel
theorem dX10_dense_0 : decode cX10_dense 0 = .ok (.iload_n 1, 1) := by decide +kernel
theorem dX10_dense_1 : decode cX10_dense 1 = .ok (.iconst 1, 1) := by decide +kernel
theorem dX10_dense_2 : decode cX10_dense 2 = .ok (.if_icmp .lt 9, 3) := by decide +kernel
theorem dX10_dense_5 : decode cX10_dense 5 = .ok (.iload_n 1, 1) := by decide +kernel
theorem dX10_dense_6 : decode cX10_dense 6 = .ok (.bipush 40, 2) := by decide +kernel
theorem dX10_dense_8 : decode cX10_dense 8 = .ok (.if_icmp .le 9, 3) := by decide +kernel
theorem dX10_dense_11 : decode cX10_dense 11 = .ok (.aload_n 0, 1) := by decide +kernel
theorem dX10_dense_12 : decode cX10_dense 12 = .ok (.iconst 1, 1) := by decide +kernel
theorem dX10_dense_13 : decode cX10_dense 13 = .ok (.invokevirtual 117, 3) := by decide +kernel
theorem dX10_dense_16 : decode cX10_dense 16 = .ok (.ireturn, 1) := by decide +kernel
theorem dX10_dense_17 : decode cX10_dense 17 = .ok (.aload_n 0, 1) := by decide +kernel
theorem dX10_dense_18 : decode cX10_dense 18 = .ok (.getfield 61, 3) := by decide +kernel
theorem dX10_dense_21 : decode cX10_dense 21 = .ok (.ifCond .ne 10, 3) := by decide +kernel
theorem dX10_dense_24 : decode cX10_dense 24 = .ok (.aload_n 0, 1) := by decide +kernel
theorem dX10_dense_25 : decode cX10_dense 25 = .ok (.bipush 6, 2) := by decide +kernel
theorem dX10_dense_27 : decode cX10_dense 27 = .ok (.invokevirtual 117, 3) := by decide +kernel
theorem dX10_dense_30 : decode cX10_dense 30 = .ok (.ireturn, 1) := by decide +kernel
theorem dX10_dense_31 : decode cX10_dense 31 = .ok (.aload_n 0, 1) := by decide +kernel
theorem dX10_dense_32 : decode cX10_dense 32 = .ok (.iload_n 1, 1) := by decide +kernel
theorem dX10_dense_33 : decode cX10_dense 33 = .ok (.aload_n 0, 1) := by decide +kernel
theorem dX10_dense_34 : decode cX10_dense 34 = .ok (.getfield 68, 3) := by decide +kernel
theorem dX10_dense_37 : decode cX10_dense 37 = .ok (.getfield 200, 3) := by decide +kernel
theorem dX10_dense_40 : decode cX10_dense 40 = .ok (.if_icmp .gt 7, 3) := by decide +kernel
theorem dX10_dense_43 : decode cX10_dense 43 = .ok (.iconst 1, 1) := by decide +kernel
theorem dX10_dense_44 : decode cX10_dense 44 = .ok (.goto 4, 3) := by decide +kernel
theorem dX10_dense_47 : decode cX10_dense 47 = .ok (.iconst 0, 1) := by decide +kernel
theorem dX10_dense_48 : decode cX10_dense 48 = .ok (.aload_n 0, 1) := by decide +kernel
theorem dX10_dense_49 : decode cX10_dense 49 = .ok (.getfield 68, 3) := by decide +kernel
theorem dX10_dense_52 : decode cX10_dense 52 = .ok (.iload_n 1, 1) := by decide +kernel
theorem dX10_dense_53 : decode cX10_dense 53 = .ok (.invokevirtual 316, 3) := by decide +kernel
theorem dX10_dense_56 : decode cX10_dense 56 = .ok (.bipush 7, 2) := by decide +kernel
theorem dX10_dense_58 : decode cX10_dense 58 = .ok (.invokevirtual 209, 3) := by decide +kernel
theorem dX10_dense_61 : decode cX10_dense 61 = .ok (.ireturn, 1) := by decide +kernel
theorem dX10_alike_0 : decode cX10_alike 0 = .ok (.aload_n 0, 1) := by decide +kernel
theorem dX10_alike_1 : decode cX10_alike 1 = .ok (.iload_n 1, 1) := by decide +kernel
theorem dX10_alike_2 : decode cX10_alike 2 = .ok (.invokevirtual 262, 3) := by decide +kernel
theorem dX10_alike_5 : decode cX10_alike 5 = .ok (.ifCond .eq 11, 3) := by decide +kernel
theorem dX10_alike_8 : decode cX10_alike 8 = .ok (.aload_n 0, 1) := by decide +kernel
theorem dX10_alike_9 : decode cX10_alike 9 = .ok (.iload_n 2, 1) := by decide +kernel
theorem dX10_alike_10 : decode cX10_alike 10 = .ok (.invokevirtual 262, 3) := by decide +kernel
theorem dX10_alike_13 : decode cX10_alike 13 = .ok (.ifCond .ne 10, 3) := by decide +kernel
theorem dX10_alike_16 : decode cX10_alike 16 = .ok (.aload_n 0, 1) := by decide +kernel
theorem dX10_alike_17 : decode cX10_alike 17 = .ok (.bipush 6, 2) := by decide +kernel
theorem dX10_alike_19 : decode cX10_alike 19 = .ok (.invokevirtual 117, 3) := by decide +kernel
